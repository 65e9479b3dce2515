def zl_heldAt (J : (nh_N → Nat → Int32))  (a : Int32) : Nat → Nat → Int32 → Int32
  | 0, j, x2 => (-1)
  | r + 1, j, x2 => (if a < 0 then (-1) else (if (J (zA 11) (J (zA 24) (nI j).toNatClampNeg).toNatClampNeg) = 0 then (if (J (zA 8) (J (zA 24) (nI j).toNatClampNeg).toNatClampNeg) ≤ 0 then zl_heldAt J  a r (j + 1) (x2 - 0) else (if x2 = 0 then (J (zA 24) (nI j).toNatClampNeg) else zl_heldAt J  a r (j + 1) (x2 - 1))) else zl_heldAt J  a r (j + 1) (x2 - 0)))
def zf_heldAt (J : (nh_N → Nat → Int32))  (nb : Nat) (a : Int32) : Int32 := zl_heldAt J  a nb 0 a
set_option maxHeartbeats 4000000 in
set_option maxRecDepth 100000 in
theorem zc_heldAt (l : Launch) (D : va_G) (cA : Nat → ClassId) {S : nh_N → Option nh_C} {g : nh_N → Nat} {J : (nh_N → Nat → Int32)} {R : nh_N → Nat → Option nh_N} (hz : zSh S R) (a : Int32) (nb : Nat) (hnb : J zM 23 = nI nb) (hb2 : nb ≤ 200) (hor : ∀ q, q < nb → ∃ i, i < 200 ∧ J (zA 24) q = nI i) : im_M l D cA yX6_heldAt vX6_heldAt 0 0 0 0 [.ref (g zM), .int a] S g J R (im_eq (some (.int (zf_heldAt J  nb a))) S g J R) := by
  refine nh_of (cc := cX6_heldAt) (maxL := 5) (ret := (some .int)) (by decide) rfl (Nat.le_of_ble_eq_true rfl) ?_
  intro p e s m below meth c A ls hx hb hr hml hts hown hlocks hin hK hw hl
  have ht : ∀ w ∈ im_ws, w.before _ s = true := fun w h => hts w (List.mem_cons_of_mem _ h)
  have hl : lv_has ls 5 [(0, .ref (g zM)), (1, .int a)] := hl
  have loop : ∀ (r j : Nat) (x2 : Int32) (ls : Array Slot) (H : Heap) (locs : List Loc), nh_S D im_cl im_sk cA A s.heap S g J R H locs → j + r = nb → lv_has ls 5 [(0, .ref (g zM)), (1, .int a), (2, .int x2), (3, .int (nI j))] → W p l e { frames := 0, cells := 0, slots := 0, locals := 0 } s m ([.ref (g zM), .int a] : List Value).toArray below meth c H locs 0 0 (MQ below (nh_Q D im_cl im_sk cA A (im_eq (some (.int (zl_heldAt J  a r j x2))) S g J R)) ([.ref (g zM), .int a] : List Value).toArray s 0 0 A) (F0 m 4 ls []) := by
    intro r
    induction r with
    | zero =>
      intro j x2 ls H locs hw hj hl
      refine lv_iload_n hx hb dX6_heldAt_4 rfl (lv_at hl 3 rfl) ?_
      refine lv_aload_n hx hb dX6_heldAt_5 rfl (lv_at hl 0 rfl) ?_
      refine fg6 (v := .int (J zM 23)) hx hb ht hown hK hw (zs_m hz) rfl 23 wf6_109 (by decide) (nh_vi rfl) dX6_heldAt_6 ?_
      refine lv_icmp_ge (tgt := 86) hx hb dX6_heldAt_9 (by decide) (fun c9 => ?_) (fun c9 => ?_)
      · refine lv_iconst (v := (-1)) hx hb dX6_heldAt_86 (by decide) ?_
        refine nh_iret hx hb hr rfl hlocks hw (Nat.zero_le _) (Nat.zero_le _) dX6_heldAt_87 ?_
        exact im_fin rfl rfl
      · exact absurd (by rw [hnb]; exact nI_le (by omega) (by omega)) c9
    | succ r ih =>
      intro j x2 ls H locs hw hj hl
      have hj9 : vp_in (nI j) 200 := vp_in_nI (by omega) (by decide)
      obtain ⟨i9, hi9, ei9⟩ := hor j (by omega)
      have hi8 : vp_in (J (zA 24) (nI j).toNatClampNeg) 200 := ix_of i9 (by rw [nI_clamp (by omega)]; exact ei9) hi9 (by decide)
      refine lv_iload_n hx hb dX6_heldAt_4 rfl (lv_at hl 3 rfl) ?_
      refine lv_aload_n hx hb dX6_heldAt_5 rfl (lv_at hl 0 rfl) ?_
      refine fg6 (v := .int (J zM 23)) hx hb ht hown hK hw (zs_m hz) rfl 23 wf6_109 (by decide) (nh_vi rfl) dX6_heldAt_6 ?_
      refine lv_icmp_ge (tgt := 86) hx hb dX6_heldAt_9 (by decide) (fun c9 => ?_) (fun c9 => ?_)
      · exact absurd c9 (by rw [hnb]; exact nI_ge (by omega) (by omega))
      · refine lv_iload_n hx hb dX6_heldAt_12 rfl (lv_at hl 1 rfl) ?_
        refine lv_if_lt (tgt := 86) hx hb dX6_heldAt_13 (by decide) (fun c13 => ?_) (fun c13 => ?_)
        · refine lv_iconst (v := (-1)) hx hb dX6_heldAt_86 (by decide) ?_
          refine nh_iret hx hb hr rfl hlocks hw (Nat.zero_le _) (Nat.zero_le _) dX6_heldAt_87 ?_
          simp only [zl_heldAt, if_pos c13]
          exact im_fin rfl rfl
        · refine lv_aload_n hx hb dX6_heldAt_16 rfl (lv_at hl 0 rfl) ?_
          refine fg6 hx hb ht hown hK hw (zs_m hz) rfl 11 wf6_35 (by decide) (nh_vr rfl (zr11 hz)) dX6_heldAt_17 ?_
          refine lv_aload_n hx hb dX6_heldAt_20 rfl (lv_at hl 0 rfl) ?_
          refine fg6 hx hb ht hown hK hw (zs_m hz) rfl 24 wf6_62 (by decide) (nh_vr rfl (zr24 hz)) dX6_heldAt_21 ?_
          refine lv_iload_n hx hb dX6_heldAt_24 rfl (lv_at hl 3 rfl) ?_
          refine ai_ld hx hb hK hw (zs24 hz) rfl hj9 dX6_heldAt_25 ?_
          refine az_ld hx hb hK hw (zs11 hz) rfl hi8 dX6_heldAt_26 ?_
          refine lv_if_ne (tgt := 48) hx hb dX6_heldAt_27 (by decide) (fun c27 => ?_) (fun c27 => ?_)
          · refine lv_iconst (v := 0) hx hb dX6_heldAt_48 (by decide) ?_
            refine lv_istore (lv' := [(4, .int 0), (0, .ref (g zM)), (1, .int a), (2, .int x2), (3, .int (nI j))]) hx hb dX6_heldAt_49 hl (by decide) rfl (fun ls hl => ?_)
            refine lv_iload hx hb dX6_heldAt_51 (lv_at hl 0 rfl) ?_
            refine lv_if_eq (tgt := 67) hx hb dX6_heldAt_53 (by decide) (fun c53 => ?_) (fun c53 => absurd c53 (by decide))
            refine lv_iload_n hx hb dX6_heldAt_67 rfl (lv_at hl 3 rfl) ?_
            refine lv_iload hx hb dX6_heldAt_68 (lv_at hl 0 rfl) ?_
            refine lv_if_eq (tgt := 77) hx hb dX6_heldAt_70 (by decide) (fun c70 => ?_) (fun c70 => absurd c70 (by decide))
            refine lv_iconst (v := 0) hx hb dX6_heldAt_77 (by decide) ?_
            refine lv_isub hx hb dX6_heldAt_78 ?_
            refine lv_istore_n (lv' := [(2, .int (x2 - 0)), (4, .int 0), (0, .ref (g zM)), (1, .int a), (3, .int (nI j))]) hx hb dX6_heldAt_79 rfl hl (by decide) rfl (fun ls hl => ?_)
            refine lv_iinc (v := (nI j) + 1) (lv' := [(3, .int ((nI j) + 1)), (2, .int (x2 - 0)), (4, .int 0), (0, .ref (g zM)), (1, .int a)]) hx hb dX6_heldAt_80 hl (k := 4) rfl rfl (by decide) rfl (fun ls hl => ?_)
            refine lv_goto (tgt := 4) hx hb dX6_heldAt_83 (by decide) ?_
            have h9 : lv_has ls 5 [(0, .ref (g zM)), (1, .int a), (2, .int (x2 - 0)), (3, .int ((nI j) + 1))] := lv_sub hl [3, 4, 1, 0] rfl
            rw [nI_1] at h9
            simp only [zl_heldAt, if_neg c13, if_neg c27]
            exact ih (j + 1) (x2 - 0) ls _ _ hw (by omega) h9
          · refine lv_aload_n hx hb dX6_heldAt_30 rfl (lv_at hl 0 rfl) ?_
            refine fg6 hx hb ht hown hK hw (zs_m hz) rfl 8 wf6_26 (by decide) (nh_vr rfl (zr8 hz)) dX6_heldAt_31 ?_
            refine lv_aload_n hx hb dX6_heldAt_34 rfl (lv_at hl 0 rfl) ?_
            refine fg6 hx hb ht hown hK hw (zs_m hz) rfl 24 wf6_62 (by decide) (nh_vr rfl (zr24 hz)) dX6_heldAt_35 ?_
            refine lv_iload_n hx hb dX6_heldAt_38 rfl (lv_at hl 3 rfl) ?_
            refine ai_ld hx hb hK hw (zs24 hz) rfl hj9 dX6_heldAt_39 ?_
            refine ai_ld hx hb hK hw (zs8 hz) rfl hi8 dX6_heldAt_40 ?_
            refine lv_if_le (tgt := 48) hx hb dX6_heldAt_41 (by decide) (fun c41 => ?_) (fun c41 => ?_)
            · refine lv_iconst (v := 0) hx hb dX6_heldAt_48 (by decide) ?_
              refine lv_istore (lv' := [(4, .int 0), (0, .ref (g zM)), (1, .int a), (2, .int x2), (3, .int (nI j))]) hx hb dX6_heldAt_49 hl (by decide) rfl (fun ls hl => ?_)
              refine lv_iload hx hb dX6_heldAt_51 (lv_at hl 0 rfl) ?_
              refine lv_if_eq (tgt := 67) hx hb dX6_heldAt_53 (by decide) (fun c53 => ?_) (fun c53 => absurd c53 (by decide))
              refine lv_iload_n hx hb dX6_heldAt_67 rfl (lv_at hl 3 rfl) ?_
              refine lv_iload hx hb dX6_heldAt_68 (lv_at hl 0 rfl) ?_
              refine lv_if_eq (tgt := 77) hx hb dX6_heldAt_70 (by decide) (fun c70 => ?_) (fun c70 => absurd c70 (by decide))
              refine lv_iconst (v := 0) hx hb dX6_heldAt_77 (by decide) ?_
              refine lv_isub hx hb dX6_heldAt_78 ?_
              refine lv_istore_n (lv' := [(2, .int (x2 - 0)), (4, .int 0), (0, .ref (g zM)), (1, .int a), (3, .int (nI j))]) hx hb dX6_heldAt_79 rfl hl (by decide) rfl (fun ls hl => ?_)
              refine lv_iinc (v := (nI j) + 1) (lv' := [(3, .int ((nI j) + 1)), (2, .int (x2 - 0)), (4, .int 0), (0, .ref (g zM)), (1, .int a)]) hx hb dX6_heldAt_80 hl (k := 4) rfl rfl (by decide) rfl (fun ls hl => ?_)
              refine lv_goto (tgt := 4) hx hb dX6_heldAt_83 (by decide) ?_
              have h9 : lv_has ls 5 [(0, .ref (g zM)), (1, .int a), (2, .int (x2 - 0)), (3, .int ((nI j) + 1))] := lv_sub hl [3, 4, 1, 0] rfl
              rw [nI_1] at h9
              simp only [zl_heldAt, if_neg c13, if_pos c27, if_pos c41]
              exact ih (j + 1) (x2 - 0) ls _ _ hw (by omega) h9
            · refine lv_iconst (v := 1) hx hb dX6_heldAt_44 (by decide) ?_
              refine lv_goto (tgt := 49) hx hb dX6_heldAt_45 (by decide) ?_
              refine lv_istore (lv' := [(4, .int 1), (0, .ref (g zM)), (1, .int a), (2, .int x2), (3, .int (nI j))]) hx hb dX6_heldAt_49 hl (by decide) rfl (fun ls hl => ?_)
              refine lv_iload hx hb dX6_heldAt_51 (lv_at hl 0 rfl) ?_
              refine lv_if_eq (tgt := 67) hx hb dX6_heldAt_53 (by decide) (fun c53 => absurd c53 (by decide)) (fun c53 => ?_)
              refine lv_iload_n hx hb dX6_heldAt_56 rfl (lv_at hl 3 rfl) ?_
              refine lv_if_ne (tgt := 67) hx hb dX6_heldAt_57 (by decide) (fun c57 => ?_) (fun c57 => ?_)
              · refine lv_iload_n hx hb dX6_heldAt_67 rfl (lv_at hl 3 rfl) ?_
                refine lv_iload hx hb dX6_heldAt_68 (lv_at hl 0 rfl) ?_
                refine lv_if_eq (tgt := 77) hx hb dX6_heldAt_70 (by decide) (fun c70 => absurd c70 (by decide)) (fun c70 => ?_)
                refine lv_iconst (v := 1) hx hb dX6_heldAt_73 (by decide) ?_
                refine lv_goto (tgt := 78) hx hb dX6_heldAt_74 (by decide) ?_
                refine lv_isub hx hb dX6_heldAt_78 ?_
                refine lv_istore_n (lv' := [(2, .int (x2 - 1)), (4, .int 1), (0, .ref (g zM)), (1, .int a), (3, .int (nI j))]) hx hb dX6_heldAt_79 rfl hl (by decide) rfl (fun ls hl => ?_)
                refine lv_iinc (v := (nI j) + 1) (lv' := [(3, .int ((nI j) + 1)), (2, .int (x2 - 1)), (4, .int 1), (0, .ref (g zM)), (1, .int a)]) hx hb dX6_heldAt_80 hl (k := 4) rfl rfl (by decide) rfl (fun ls hl => ?_)
                refine lv_goto (tgt := 4) hx hb dX6_heldAt_83 (by decide) ?_
                have h9 : lv_has ls 5 [(0, .ref (g zM)), (1, .int a), (2, .int (x2 - 1)), (3, .int ((nI j) + 1))] := lv_sub hl [3, 4, 1, 0] rfl
                rw [nI_1] at h9
                simp only [zl_heldAt, if_neg c13, if_pos c27, if_neg c41, if_neg c57]
                exact ih (j + 1) (x2 - 1) ls _ _ hw (by omega) h9
              · refine lv_aload_n hx hb dX6_heldAt_60 rfl (lv_at hl 1 rfl) ?_
                refine fg6 hx hb ht hown hK hw (zs_m hz) rfl 24 wf6_62 (by decide) (nh_vr rfl (zr24 hz)) dX6_heldAt_61 ?_
                refine lv_iload_n hx hb dX6_heldAt_64 rfl (lv_at hl 4 rfl) ?_
                refine ai_ld hx hb hK hw (zs24 hz) rfl hj9 dX6_heldAt_65 ?_
                refine nh_iret hx hb hr rfl hlocks hw (Nat.zero_le _) (Nat.zero_le _) dX6_heldAt_66 ?_
                simp only [zl_heldAt, if_neg c13, if_pos c27, if_neg c41, if_pos c57]
                exact im_fin rfl rfl
  refine lv_iload_n hx hb dX6_heldAt_0 rfl (lv_at hl 1 rfl) ?_
  refine lv_istore_n (lv' := [(2, .int a), (0, .ref (g zM)), (1, .int a)]) hx hb dX6_heldAt_1 rfl hl (by decide) rfl (fun ls hl => ?_)
  refine lv_iconst (v := 0) hx hb dX6_heldAt_2 (by decide) ?_
  refine lv_istore_n (lv' := [(3, .int 0), (2, .int a), (0, .ref (g zM)), (1, .int a)]) hx hb dX6_heldAt_3 rfl hl (by decide) rfl (fun ls hl => ?_)
  exact loop nb 0 a ls _ _ hw (by omega) (by rw [nI_0]; exact lv_sub hl [2, 3, 1, 0] rfl)
def zf_held (J : (nh_N → Nat → Int32)) (nb : Nat) (a : Int32) : Int32 := (zf_heldAt J nb a)
set_option maxHeartbeats 4000000 in
set_option maxRecDepth 100000 in
theorem zc_held (l : Launch) (D : va_G) (cA : Nat → ClassId) {S : nh_N → Option nh_C} {g : nh_N → Nat} {J : (nh_N → Nat → Int32)} {R : nh_N → Nat → Option nh_N} (hz : zSh S R) (a : Int32) (nb : Nat) (hnb : J zM 23 = nI nb) (hb2 : nb ≤ 200) (hor : ∀ q, q < nb → ∃ i, i < 200 ∧ J (zA 24) q = nI i) : im_M l D cA yX6_held vX6_held 1 24 0 0 [.ref (g zM), .int a] S g J R (im_eq (some (.int (zf_held J nb a))) S g J R) := by
  refine nh_of (cc := cX6_held) (maxL := 2) (ret := (some .int)) (by decide) rfl (Nat.le_of_ble_eq_true rfl) ?_
  intro p e s m below meth c A ls hx hb hr hml hts hown hlocks hin hK hw hl
  have ht : ∀ w ∈ im_ws, w.before _ s = true := fun w h => hts w (List.mem_cons_of_mem _ h)
  have hl : lv_has ls 2 [(0, .ref (g zM)), (1, .int a)] := hl
  refine lv_aload_n hx hb dX6_held_0 rfl (lv_at hl 0 rfl) ?_
  refine lv_iload_n hx hb dX6_held_1 rfl (lv_at hl 1 rfl) ?_
  refine kcX6_heldAt (As := [.int a]) (rest := []) wm6_123 (zc_heldAt l D cA hz a nb hnb hb2 hor) hx hb hml ht hown hK hw (zs_m hz) rfl rfl hl.1 rfl (by simp [Value.category]) ⟨by decide, by decide⟩ ⟨by simp, by simp⟩ dX6_held_2 (fun v S1 g1 I1 R1 H locs hp hw => ?_)
  obtain ⟨rfl, h1, h2, h3, h4⟩ := hp
  rw [h1, h2, h3, h4] at hw
  clear h1 h2 h3 h4
  show W _ _ _ _ _ _ _ _ _ _ _ _ _ _ _ (F0 m 5 ls [.int (zf_heldAt J nb a)])
  refine nh_iret hx hb hr rfl hlocks hw (Nat.zero_le _) (Nat.zero_le _) dX6_held_5 ?_
  exact im_fin rfl rfl
theorem zi_cl {J : nh_N → Nat → Int32} {b : Int32} (h : ¬ zf_in J b 0 39 = 0) : b = nI b.toNatClampNeg := by
  have h1 : vp_in b 40 := zi_in (x := 40) h (show (40 : Int32) = nI 40 from rfl) (Nat.le_refl _)
  obtain ⟨j, hj, rfl⟩ := vp_in_of h1 (by decide)
  rw [nI_clamp (by omega)]
theorem zi_40 {J : nh_N → Nat → Int32} {b : Int32} (h : ¬ zf_in J b 0 39 = 0) : b.toNatClampNeg ≤ 40 := by
  have h1 : vp_in b 40 := zi_in (x := 40) h (show (40 : Int32) = nI 40 from rfl) (Nat.le_refl _)
  obtain ⟨j, hj, rfl⟩ := vp_in_of h1 (by decide)
  rw [nI_clamp (by omega)]
  omega
def zf_used (J : (nh_N → Nat → Int32)) (np : Nat) (a : Int32) (b : Int32) : Int32 := (if (zf_in J a 0 39) = 0 then (-1) else (if b = (-1) then (zf_standing J np a b) else (if (zf_isClass J b) = 0 then (-1) else (zf_standing J np a b))))
set_option maxHeartbeats 4000000 in
set_option maxRecDepth 100000 in
theorem zc_used (l : Launch) (D : va_G) (cA : Nat → ClassId) {S : nh_N → Option nh_C} {g : nh_N → Nat} {J : (nh_N → Nat → Int32)} {R : nh_N → Nat → Option nh_N} (hz : zSh S R) (a : Int32) (b : Int32) (np : Nat) (hnp : J zM 18 = nI np) (hp9 : np ≤ 9000) (hpi : ∀ q, q < np → ∃ i, i < 200 ∧ J (zA 20) q = nI i) : im_M l D cA yX6_used vX6_used 2 43 0 0 [.ref (g zM), .int a, .int b] S g J R (im_eq (some (.int (zf_used J np a b))) S g J R) := by
  refine nh_of (cc := cX6_used) (maxL := 3) (ret := (some .int)) (by decide) rfl (Nat.le_of_ble_eq_true rfl) ?_
  intro p e s m below meth c A ls hx hb hr hml hts hown hlocks hin hK hw hl
  have ht : ∀ w ∈ im_ws, w.before _ s = true := fun w h => hts w (List.mem_cons_of_mem _ h)
  have hl : lv_has ls 3 [(0, .ref (g zM)), (1, .int a), (2, .int b)] := hl
  refine lv_iload_n hx hb dX6_used_0 rfl (lv_at hl 1 rfl) ?_
  refine lv_iconst (v := 0) hx hb dX6_used_1 (by decide) ?_
  refine lv_bipush (v := 39) hx hb dX6_used_2 (by decide) ?_
  refine kcX6_in (As := [.int a, .int 0, .int 39]) (rest := []) wm6_78 (zc_in l D cA a 0 39) hx hb hml ht hown hK hw rfl hl.1 rfl (by simp [Value.category]) ⟨by decide, by decide⟩ ⟨by simp, by simp⟩ dX6_used_4 (fun v S1 g1 I1 R1 H locs hp hw => ?_)
  obtain ⟨rfl, h1, h2, h3, h4⟩ := hp
  rw [h1, h2, h3, h4] at hw
  clear h1 h2 h3 h4
  show W _ _ _ _ _ _ _ _ _ _ _ _ _ _ _ (F0 m 7 ls [.int (zf_in J a 0 39)])
  refine lv_if_eq (tgt := 23) hx hb dX6_used_7 (by decide) (fun c7 => ?_) (fun c7 => ?_)
  · refine lv_iconst (v := (-1)) hx hb dX6_used_23 (by decide) ?_
    refine lv_goto (tgt := 33) hx hb dX6_used_24 (by decide) ?_
    refine nh_iret hx hb hr rfl hlocks hw (Nat.zero_le _) (Nat.zero_le _) dX6_used_33 ?_
    simp only [zf_used, if_pos c7]
    exact im_fin rfl rfl
  · refine lv_iload_n hx hb dX6_used_10 rfl (lv_at hl 2 rfl) ?_
    refine lv_iconst (v := (-1)) hx hb dX6_used_11 (by decide) ?_
    refine lv_icmp_eq (tgt := 27) hx hb dX6_used_12 (by decide) (fun c12 => ?_) (fun c12 => ?_)
    · refine lv_aload_n hx hb dX6_used_27 rfl (lv_at hl 0 rfl) ?_
      refine lv_iload_n hx hb dX6_used_28 rfl (lv_at hl 1 rfl) ?_
      refine lv_iload_n hx hb dX6_used_29 rfl (lv_at hl 2 rfl) ?_
      refine kcX6_standing (As := [.int a, .int b]) (rest := []) wm6_101 (zc_standing l D cA hz a b np (by simp [iu_e, zM, zA, iu_e, hnp]) (by omega) (by simpa [iu_e, zM, zA, iu_e] using hpi)) hx hb hml ht hown hK hw (zs_m hz) rfl rfl hl.1 rfl (by simp [Value.category]) ⟨by decide, by decide⟩ ⟨by simp, by simp⟩ dX6_used_30 (fun v S1 g1 I1 R1 H locs hp hw => ?_)
      obtain ⟨rfl, h1, h2, h3, h4⟩ := hp
      rw [h1, h2, h3, h4] at hw
      clear h1 h2 h3 h4
      show W _ _ _ _ _ _ _ _ _ _ _ _ _ _ _ (F0 m 33 ls [.int (zf_standing J np a b)])
      refine nh_iret hx hb hr rfl hlocks hw (Nat.zero_le _) (Nat.zero_le _) dX6_used_33 ?_
      simp only [zf_used, if_neg c7, if_pos c12]
      exact im_fin rfl rfl
    · refine lv_aload_n hx hb dX6_used_15 rfl (lv_at hl 0 rfl) ?_
      refine lv_iload_n hx hb dX6_used_16 rfl (lv_at hl 2 rfl) ?_
      refine kcX6_isClass (As := [.int b]) (rest := []) wm6_82 (zc_isClass l D cA hz b) hx hb hml ht hown hK hw (zs_m hz) rfl rfl hl.1 rfl (by simp [Value.category]) ⟨by decide, by decide⟩ ⟨by simp, by simp⟩ dX6_used_17 (fun v S1 g1 I1 R1 H locs hp hw => ?_)
      obtain ⟨rfl, h1, h2, h3, h4⟩ := hp
      rw [h1, h2, h3, h4] at hw
      clear h1 h2 h3 h4
      show W _ _ _ _ _ _ _ _ _ _ _ _ _ _ _ (F0 m 20 ls [.int (zf_isClass J b)])
      refine lv_if_ne (tgt := 27) hx hb dX6_used_20 (by decide) (fun c20 => ?_) (fun c20 => ?_)
      · refine lv_aload_n hx hb dX6_used_27 rfl (lv_at hl 0 rfl) ?_
        refine lv_iload_n hx hb dX6_used_28 rfl (lv_at hl 1 rfl) ?_
        refine lv_iload_n hx hb dX6_used_29 rfl (lv_at hl 2 rfl) ?_
        refine kcX6_standing (As := [.int a, .int b]) (rest := []) wm6_101 (zc_standing l D cA hz a b np (by simp [iu_e, zM, zA, iu_e, hnp]) (by omega) (by simpa [iu_e, zM, zA, iu_e] using hpi)) hx hb hml ht hown hK hw (zs_m hz) rfl rfl hl.1 rfl (by simp [Value.category]) ⟨by decide, by decide⟩ ⟨by simp, by simp⟩ dX6_used_30 (fun v S1 g1 I1 R1 H locs hp hw => ?_)
        obtain ⟨rfl, h1, h2, h3, h4⟩ := hp
        rw [h1, h2, h3, h4] at hw
        clear h1 h2 h3 h4
        show W _ _ _ _ _ _ _ _ _ _ _ _ _ _ _ (F0 m 33 ls [.int (zf_standing J np a b)])
        refine nh_iret hx hb hr rfl hlocks hw (Nat.zero_le _) (Nat.zero_le _) dX6_used_33 ?_
        simp only [zf_used, if_neg c7, if_neg c12, if_neg c20]
        exact im_fin rfl rfl
      · refine lv_iconst (v := (-1)) hx hb dX6_used_23 (by decide) ?_
        refine lv_goto (tgt := 33) hx hb dX6_used_24 (by decide) ?_
        refine nh_iret hx hb hr rfl hlocks hw (Nat.zero_le _) (Nat.zero_le _) dX6_used_33 ?_
        simp only [zf_used, if_neg c7, if_neg c12, if_pos c20]
        exact im_fin rfl rfl
def zf_seen (J : (nh_N → Nat → Int32)) (nm : Nat) (a : Int32) (b : Int32) (d : Int32) : Int32 := (if (zf_isClass J a) = 0 then 0 else (if (zf_in J b 0 39) = 0 then 0 else (if (zf_in J d 0 2) = 0 then 0 else (if d = 0 then (zf_lastBefore J nm b.toNatClampNeg a b) else (if d = 1 then (if 0 ≤ (zf_markOn J nm a b 1) then (J (zA 16) (zf_markOn J nm a b 1).toNatClampNeg) else (zf_lastBefore J nm b.toNatClampNeg a b)) else (if 0 ≤ (zf_markOn J nm a b 0) then (J (zA 16) (zf_markOn J nm a b 0).toNatClampNeg) else (zf_lastBefore J nm b.toNatClampNeg a b)))))))
set_option maxHeartbeats 4000000 in
set_option maxRecDepth 100000 in
theorem zc_seen (l : Launch) (D : va_G) (cA : Nat → ClassId) {S : nh_N → Option nh_C} {g : nh_N → Nat} {J : (nh_N → Nat → Int32)} {R : nh_N → Nat → Option nh_N} (hz : zSh S R) (a : Int32) (b : Int32) (d : Int32) (nm : Nat) (hnm : J zM 13 = nI nm) (hm3 : nm ≤ 300) : im_M l D cA yX6_seen vX6_seen 2 49 0 0 [.ref (g zM), .int a, .int b, .int d] S g J R (im_eq (some (.int (zf_seen J nm a b d))) S g J R) := by
  refine nh_of (cc := cX6_seen) (maxL := 5) (ret := (some .int)) (by decide) rfl (Nat.le_of_ble_eq_true rfl) ?_
  intro p e s m below meth c A ls hx hb hr hml hts hown hlocks hin hK hw hl
  have ht : ∀ w ∈ im_ws, w.before _ s = true := fun w h => hts w (List.mem_cons_of_mem _ h)
  have hl : lv_has ls 5 [(0, .ref (g zM)), (1, .int a), (2, .int b), (3, .int d)] := hl
  refine lv_aload_n hx hb dX6_seen_0 rfl (lv_at hl 0 rfl) ?_
  refine lv_iload_n hx hb dX6_seen_1 rfl (lv_at hl 1 rfl) ?_
  refine kcX6_isClass (As := [.int a]) (rest := []) wm6_82 (zc_isClass l D cA hz a) hx hb hml ht hown hK hw (zs_m hz) rfl rfl hl.1 rfl (by simp [Value.category]) ⟨by decide, by decide⟩ ⟨by simp, by simp⟩ dX6_seen_2 (fun v S1 g1 I1 R1 H locs hp hw => ?_)
  obtain ⟨rfl, h1, h2, h3, h4⟩ := hp
  rw [h1, h2, h3, h4] at hw
  clear h1 h2 h3 h4
  show W _ _ _ _ _ _ _ _ _ _ _ _ _ _ _ (F0 m 5 ls [.int (zf_isClass J a)])
  refine lv_if_eq (tgt := 27) hx hb dX6_seen_5 (by decide) (fun c5 => ?_) (fun c5 => ?_)
  · refine lv_iconst (v := 0) hx hb dX6_seen_27 (by decide) ?_
    refine nh_iret hx hb hr rfl hlocks hw (Nat.zero_le _) (Nat.zero_le _) dX6_seen_28 ?_
    simp only [zf_seen, if_pos c5]
    exact im_fin rfl rfl
  · refine lv_iload_n hx hb dX6_seen_8 rfl (lv_at hl 2 rfl) ?_
    refine lv_iconst (v := 0) hx hb dX6_seen_9 (by decide) ?_
    refine lv_bipush (v := 39) hx hb dX6_seen_10 (by decide) ?_
    refine kcX6_in (As := [.int b, .int 0, .int 39]) (rest := []) wm6_78 (zc_in l D cA b 0 39) hx hb hml ht hown hK hw rfl hl.1 rfl (by simp [Value.category]) ⟨by decide, by decide⟩ ⟨by simp, by simp⟩ dX6_seen_12 (fun v S1 g1 I1 R1 H locs hp hw => ?_)
    obtain ⟨rfl, h1, h2, h3, h4⟩ := hp
    rw [h1, h2, h3, h4] at hw
    clear h1 h2 h3 h4
    show W _ _ _ _ _ _ _ _ _ _ _ _ _ _ _ (F0 m 15 ls [.int (zf_in J b 0 39)])
    refine lv_if_eq (tgt := 27) hx hb dX6_seen_15 (by decide) (fun c15 => ?_) (fun c15 => ?_)
    · refine lv_iconst (v := 0) hx hb dX6_seen_27 (by decide) ?_
      refine nh_iret hx hb hr rfl hlocks hw (Nat.zero_le _) (Nat.zero_le _) dX6_seen_28 ?_
      simp only [zf_seen, if_neg c5, if_pos c15]
      exact im_fin rfl rfl
    · refine lv_iload_n hx hb dX6_seen_18 rfl (lv_at hl 3 rfl) ?_
      refine lv_iconst (v := 0) hx hb dX6_seen_19 (by decide) ?_
      refine lv_iconst (v := 2) hx hb dX6_seen_20 (by decide) ?_
      refine kcX6_in (As := [.int d, .int 0, .int 2]) (rest := []) wm6_78 (zc_in l D cA d 0 2) hx hb hml ht hown hK hw rfl hl.1 rfl (by simp [Value.category]) ⟨by decide, by decide⟩ ⟨by simp, by simp⟩ dX6_seen_21 (fun v S1 g1 I1 R1 H locs hp hw => ?_)
      obtain ⟨rfl, h1, h2, h3, h4⟩ := hp
      rw [h1, h2, h3, h4] at hw
      clear h1 h2 h3 h4
      show W _ _ _ _ _ _ _ _ _ _ _ _ _ _ _ (F0 m 24 ls [.int (zf_in J d 0 2)])
      refine lv_if_ne (tgt := 29) hx hb dX6_seen_24 (by decide) (fun c24 => ?_) (fun c24 => ?_)
      · refine lv_iload_n hx hb dX6_seen_29 rfl (lv_at hl 3 rfl) ?_
        refine lv_if_ne (tgt := 37) hx hb dX6_seen_30 (by decide) (fun c30 => ?_) (fun c30 => ?_)
        · refine lv_aload_n hx hb dX6_seen_37 rfl (lv_at hl 0 rfl) ?_
          refine lv_iload_n hx hb dX6_seen_38 rfl (lv_at hl 1 rfl) ?_
          refine lv_iload_n hx hb dX6_seen_39 rfl (lv_at hl 2 rfl) ?_
          refine lv_iload_n hx hb dX6_seen_40 rfl (lv_at hl 3 rfl) ?_
          refine lv_iconst (v := 1) hx hb dX6_seen_41 (by decide) ?_
          refine lv_icmp_ne (tgt := 49) hx hb dX6_seen_42 (by decide) (fun c42 => ?_) (fun c42 => ?_)
          · refine lv_iconst (v := 0) hx hb dX6_seen_49 (by decide) ?_
            refine kcX6_markOn (As := [.int a, .int b, .int 0]) (rest := []) wm6_134 (zc_markOn l D cA hz a b 0 nm hnm hm3) hx hb hml ht hown hK hw (zs_m hz) rfl rfl hl.1 rfl (by simp [Value.category]) ⟨by decide, by decide⟩ ⟨by simp, by simp⟩ dX6_seen_50 (fun v S1 g1 I1 R1 H locs hp hw => ?_)
            obtain ⟨rfl, h1, h2, h3, h4⟩ := hp
            rw [h1, h2, h3, h4] at hw
            clear h1 h2 h3 h4
            show W _ _ _ _ _ _ _ _ _ _ _ _ _ _ _ (F0 m 53 ls [.int (zf_markOn J nm a b 0)])
            refine lv_istore (lv' := [(4, .int (zf_markOn J nm a b 0)), (0, .ref (g zM)), (1, .int a), (2, .int b), (3, .int d)]) hx hb dX6_seen_53 hl (by decide) rfl (fun ls hl => ?_)
            refine lv_iload hx hb dX6_seen_55 (lv_at hl 0 rfl) ?_
            refine lv_if_ge (tgt := 69) hx hb dX6_seen_57 (by decide) (fun c57 => ?_) (fun c57 => ?_)
            · obtain ⟨q9, hq9, eq9⟩ := zx_markOn (by omega) (Int32.not_lt.mpr c57)
              refine lv_aload_n hx hb dX6_seen_69 rfl (lv_at hl 1 rfl) ?_
              refine fg6 hx hb ht hown hK hw (zs_m hz) rfl 16 wf6_47 (by decide) (nh_vr rfl (zr16 hz)) dX6_seen_70 ?_
              refine lv_iload hx hb dX6_seen_73 (lv_at hl 0 rfl) ?_
              refine ai_ld hx hb hK hw (zs16 hz) rfl (ix_of q9 eq9 (by omega) (by decide)) dX6_seen_75 ?_
              refine nh_iret hx hb hr rfl hlocks hw (Nat.zero_le _) (Nat.zero_le _) dX6_seen_76 ?_
              simp only [zf_seen, if_neg c5, if_neg c15, if_neg c24, if_neg c30, if_neg c42, if_pos c57]
              exact im_fin rfl rfl
            · refine lv_aload_n hx hb dX6_seen_60 rfl (lv_at hl 1 rfl) ?_
              refine lv_iload_n hx hb dX6_seen_61 rfl (lv_at hl 2 rfl) ?_
              refine lv_iload_n hx hb dX6_seen_62 rfl (lv_at hl 3 rfl) ?_
              refine kcX6_lastBefore (As := [.int a, .int b]) (rest := []) wm6_138 (zc_lastBefore l D cA hz a b b.toNatClampNeg (zi_cl c15) (zi_40 c15) nm hnm hm3) hx hb hml ht hown hK hw (zs_m hz) rfl rfl hl.1 rfl (by simp [Value.category]) ⟨by decide, by decide⟩ ⟨by simp, by simp⟩ dX6_seen_63 (fun v S1 g1 I1 R1 H locs hp hw => ?_)
              obtain ⟨rfl, h1, h2, h3, h4⟩ := hp
              rw [h1, h2, h3, h4] at hw
              clear h1 h2 h3 h4
              show W _ _ _ _ _ _ _ _ _ _ _ _ _ _ _ (F0 m 66 ls [.int (zf_lastBefore J nm b.toNatClampNeg a b)])
              refine lv_goto (tgt := 76) hx hb dX6_seen_66 (by decide) ?_
              refine nh_iret hx hb hr rfl hlocks hw (Nat.zero_le _) (Nat.zero_le _) dX6_seen_76 ?_
              simp only [zf_seen, if_neg c5, if_neg c15, if_neg c24, if_neg c30, if_neg c42, if_neg c57]
              exact im_fin rfl rfl
          · refine lv_iconst (v := 1) hx hb dX6_seen_45 (by decide) ?_
            refine lv_goto (tgt := 50) hx hb dX6_seen_46 (by decide) ?_
            refine kcX6_markOn (As := [.int a, .int b, .int 1]) (rest := []) wm6_134 (zc_markOn l D cA hz a b 1 nm hnm hm3) hx hb hml ht hown hK hw (zs_m hz) rfl rfl hl.1 rfl (by simp [Value.category]) ⟨by decide, by decide⟩ ⟨by simp, by simp⟩ dX6_seen_50 (fun v S1 g1 I1 R1 H locs hp hw => ?_)
            obtain ⟨rfl, h1, h2, h3, h4⟩ := hp
            rw [h1, h2, h3, h4] at hw
            clear h1 h2 h3 h4
            show W _ _ _ _ _ _ _ _ _ _ _ _ _ _ _ (F0 m 53 ls [.int (zf_markOn J nm a b 1)])
            refine lv_istore (lv' := [(4, .int (zf_markOn J nm a b 1)), (0, .ref (g zM)), (1, .int a), (2, .int b), (3, .int d)]) hx hb dX6_seen_53 hl (by decide) rfl (fun ls hl => ?_)
            refine lv_iload hx hb dX6_seen_55 (lv_at hl 0 rfl) ?_
            refine lv_if_ge (tgt := 69) hx hb dX6_seen_57 (by decide) (fun c57 => ?_) (fun c57 => ?_)
            · obtain ⟨q9, hq9, eq9⟩ := zx_markOn (by omega) (Int32.not_lt.mpr c57)
              refine lv_aload_n hx hb dX6_seen_69 rfl (lv_at hl 1 rfl) ?_
              refine fg6 hx hb ht hown hK hw (zs_m hz) rfl 16 wf6_47 (by decide) (nh_vr rfl (zr16 hz)) dX6_seen_70 ?_
              refine lv_iload hx hb dX6_seen_73 (lv_at hl 0 rfl) ?_
              refine ai_ld hx hb hK hw (zs16 hz) rfl (ix_of q9 eq9 (by omega) (by decide)) dX6_seen_75 ?_
              refine nh_iret hx hb hr rfl hlocks hw (Nat.zero_le _) (Nat.zero_le _) dX6_seen_76 ?_
              simp only [zf_seen, if_neg c5, if_neg c15, if_neg c24, if_neg c30, if_pos c42, if_pos c57]
              exact im_fin rfl rfl
            · refine lv_aload_n hx hb dX6_seen_60 rfl (lv_at hl 1 rfl) ?_
              refine lv_iload_n hx hb dX6_seen_61 rfl (lv_at hl 2 rfl) ?_
              refine lv_iload_n hx hb dX6_seen_62 rfl (lv_at hl 3 rfl) ?_
              refine kcX6_lastBefore (As := [.int a, .int b]) (rest := []) wm6_138 (zc_lastBefore l D cA hz a b b.toNatClampNeg (zi_cl c15) (zi_40 c15) nm hnm hm3) hx hb hml ht hown hK hw (zs_m hz) rfl rfl hl.1 rfl (by simp [Value.category]) ⟨by decide, by decide⟩ ⟨by simp, by simp⟩ dX6_seen_63 (fun v S1 g1 I1 R1 H locs hp hw => ?_)
              obtain ⟨rfl, h1, h2, h3, h4⟩ := hp
              rw [h1, h2, h3, h4] at hw
              clear h1 h2 h3 h4
              show W _ _ _ _ _ _ _ _ _ _ _ _ _ _ _ (F0 m 66 ls [.int (zf_lastBefore J nm b.toNatClampNeg a b)])
              refine lv_goto (tgt := 76) hx hb dX6_seen_66 (by decide) ?_
              refine nh_iret hx hb hr rfl hlocks hw (Nat.zero_le _) (Nat.zero_le _) dX6_seen_76 ?_
              simp only [zf_seen, if_neg c5, if_neg c15, if_neg c24, if_neg c30, if_pos c42, if_neg c57]
              exact im_fin rfl rfl
        · refine lv_iconst (v := (-1)) hx hb dX6_seen_33 (by decide) ?_
          refine lv_goto (tgt := 53) hx hb dX6_seen_34 (by decide) ?_
          refine lv_istore (lv' := [(4, .int (-1)), (0, .ref (g zM)), (1, .int a), (2, .int b), (3, .int d)]) hx hb dX6_seen_53 hl (by decide) rfl (fun ls hl => ?_)
          refine lv_iload hx hb dX6_seen_55 (lv_at hl 0 rfl) ?_
          refine lv_if_ge (tgt := 69) hx hb dX6_seen_57 (by decide) (fun c57 => absurd c57 (by decide)) (fun c57 => ?_)
          refine lv_aload_n hx hb dX6_seen_60 rfl (lv_at hl 1 rfl) ?_
          refine lv_iload_n hx hb dX6_seen_61 rfl (lv_at hl 2 rfl) ?_
          refine lv_iload_n hx hb dX6_seen_62 rfl (lv_at hl 3 rfl) ?_
          refine kcX6_lastBefore (As := [.int a, .int b]) (rest := []) wm6_138 (zc_lastBefore l D cA hz a b b.toNatClampNeg (zi_cl c15) (zi_40 c15) nm hnm hm3) hx hb hml ht hown hK hw (zs_m hz) rfl rfl hl.1 rfl (by simp [Value.category]) ⟨by decide, by decide⟩ ⟨by simp, by simp⟩ dX6_seen_63 (fun v S1 g1 I1 R1 H locs hp hw => ?_)
          obtain ⟨rfl, h1, h2, h3, h4⟩ := hp
          rw [h1, h2, h3, h4] at hw
          clear h1 h2 h3 h4
          show W _ _ _ _ _ _ _ _ _ _ _ _ _ _ _ (F0 m 66 ls [.int (zf_lastBefore J nm b.toNatClampNeg a b)])
          refine lv_goto (tgt := 76) hx hb dX6_seen_66 (by decide) ?_
          refine nh_iret hx hb hr rfl hlocks hw (Nat.zero_le _) (Nat.zero_le _) dX6_seen_76 ?_
          simp only [zf_seen, if_neg c5, if_neg c15, if_neg c24, if_pos c30]
          exact im_fin rfl rfl
      · refine lv_iconst (v := 0) hx hb dX6_seen_27 (by decide) ?_
        refine nh_iret hx hb hr rfl hlocks hw (Nat.zero_le _) (Nat.zero_le _) dX6_seen_28 ?_
        simp only [zf_seen, if_neg c5, if_neg c15, if_pos c24]
        exact im_fin rfl rfl
def zl_count (J : (nh_N → Nat → Int32))  (a : Int32) : Nat → Nat → Int32
  | 0, j => (nI j)
  | r + 1, j => zl_count J  a r (j + 1) 
def zf_count (J : (nh_N → Nat → Int32))  (hc : Nat) (a : Int32) : Int32 := (if a = 0 then (J zM 1) else (if a = 1 then (J zM 6) else (if a = 2 then (J zM 13) else (if a = 3 then (J zM 17) else (if a = 4 then zl_count J  a hc 0  else (-2))))))
set_option maxHeartbeats 4000000 in
set_option maxRecDepth 100000 in
theorem zc_count (l : Launch) (D : va_G) (cA : Nat → ClassId) {S : nh_N → Option nh_C} {g : nh_N → Nat} {J : (nh_N → Nat → Int32)} {R : nh_N → Nat → Option nh_N} (hz : zSh S R) (a : Int32) (nb : Nat) (hnb : J zM 23 = nI nb) (hb2 : nb ≤ 200) (hor : ∀ q, q < nb → ∃ i, i < 200 ∧ J (zA 24) q = nI i) (hc : Nat) (hc2 : hc ≤ 200) (hc0 : ∀ j, j < hc → ¬ zf_heldAt J nb (nI j) < 0) (hc1 : zf_heldAt J nb (nI hc) < 0) : im_M l D cA yX6_count vX6_count 1 24 0 0 [.ref (g zM), .int a] S g J R (im_eq (some (.int (zf_count J  hc a))) S g J R) := by
  refine nh_of (cc := cX6_count) (maxL := 3) (ret := (some .int)) (by decide) rfl (Nat.le_of_ble_eq_true rfl) ?_
  intro p e s m below meth c A ls hx hb hr hml hts hown hlocks hin hK hw hl
  have ht : ∀ w ∈ im_ws, w.before _ s = true := fun w h => hts w (List.mem_cons_of_mem _ h)
  have hl : lv_has ls 3 [(0, .ref (g zM)), (1, .int a)] := hl
  have loop : ∀ (r j : Nat)  (ls : Array Slot) (H : Heap) (locs : List Loc), nh_S D im_cl im_sk cA A s.heap S g J R H locs → j + r = hc → lv_has ls 3 [(0, .ref (g zM)), (1, .int a), (2, .int (nI j))] → W p l e { frames := 1, cells := 0, slots := 0, locals := 24 } s m ([.ref (g zM), .int a] : List Value).toArray below meth c H locs 0 0 (MQ below (nh_Q D im_cl im_sk cA A (im_eq (some (.int (zl_count J  a r j ))) S g J R)) ([.ref (g zM), .int a] : List Value).toArray s 0 0 A) (F0 m 56 ls []) := by
    intro r
    induction r with
    | zero =>
      intro j  ls H locs hw hj hl
      refine lv_aload_n hx hb dX6_count_56 rfl (lv_at hl 0 rfl) ?_
      refine lv_iload_n hx hb dX6_count_57 rfl (lv_at hl 2 rfl) ?_
      refine kcX6_heldAt (As := [.int (nI j)]) (rest := []) wm6_123 (zc_heldAt l D cA hz (nI j) nb hnb hb2 hor) hx hb hml ht hown hK hw (zs_m hz) rfl rfl hl.1 rfl (by simp [Value.category]) ⟨by decide, by decide⟩ ⟨by simp, by simp⟩ dX6_count_58 (fun v S1 g1 I1 R1 H locs hp hw => ?_)
      obtain ⟨rfl, h1, h2, h3, h4⟩ := hp
      rw [h1, h2, h3, h4] at hw
      clear h1 h2 h3 h4
      show W _ _ _ _ _ _ _ _ _ _ _ _ _ _ _ (F0 m 61 ls [.int (zf_heldAt J nb (nI j))])
      refine lv_if_lt (tgt := 70) hx hb dX6_count_61 (by decide) (fun c61 => ?_) (fun c61 => ?_)
      · refine lv_iload_n hx hb dX6_count_70 rfl (lv_at hl 2 rfl) ?_
        refine nh_iret hx hb hr rfl hlocks hw (Nat.zero_le _) (Nat.zero_le _) dX6_count_71 ?_
        exact im_fin rfl rfl
      · exact absurd (by rw [show j = hc by omega]; exact hc1) c61
    | succ r ih =>
      intro j  ls H locs hw hj hl
      refine lv_aload_n hx hb dX6_count_56 rfl (lv_at hl 0 rfl) ?_
      refine lv_iload_n hx hb dX6_count_57 rfl (lv_at hl 2 rfl) ?_
      refine kcX6_heldAt (As := [.int (nI j)]) (rest := []) wm6_123 (zc_heldAt l D cA hz (nI j) nb hnb hb2 hor) hx hb hml ht hown hK hw (zs_m hz) rfl rfl hl.1 rfl (by simp [Value.category]) ⟨by decide, by decide⟩ ⟨by simp, by simp⟩ dX6_count_58 (fun v S1 g1 I1 R1 H locs hp hw => ?_)
      obtain ⟨rfl, h1, h2, h3, h4⟩ := hp
      rw [h1, h2, h3, h4] at hw
      clear h1 h2 h3 h4
      show W _ _ _ _ _ _ _ _ _ _ _ _ _ _ _ (F0 m 61 ls [.int (zf_heldAt J nb (nI j))])
      refine lv_if_lt (tgt := 70) hx hb dX6_count_61 (by decide) (fun c61 => ?_) (fun c61 => ?_)
      · exact absurd c61 (hc0 j (by omega))
      · refine lv_iinc (v := (nI j) + 1) (lv' := [(2, .int ((nI j) + 1)), (0, .ref (g zM)), (1, .int a)]) hx hb dX6_count_64 hl (k := 2) rfl rfl (by decide) rfl (fun ls hl => ?_)
        refine lv_goto (tgt := 56) hx hb dX6_count_67 (by decide) ?_
        have h9 : lv_has ls 3 [(0, .ref (g zM)), (1, .int a), (2, .int ((nI j) + 1))] := lv_sub hl [1, 2, 0] rfl
        rw [nI_1] at h9
        simp only [zl_count]
        exact ih (j + 1)  ls _ _ hw (by omega) h9
  refine lv_iconst (v := 0) hx hb dX6_count_0 (by decide) ?_
  refine lv_istore_n (lv' := [(2, .int 0), (0, .ref (g zM)), (1, .int a)]) hx hb dX6_count_1 rfl hl (by decide) rfl (fun ls hl => ?_)
  refine lv_iload_n hx hb dX6_count_2 rfl (lv_at hl 2 rfl) ?_
  by_cases c3_0 : a = 0
  · refine lv_tableIn (tgt := 36) hx hb dX6_count_3 (by rw [c3_0]; decide) (by rw [c3_0]; decide) (by rw [c3_0]; rfl) (by decide) ?_
    refine lv_aload_n hx hb dX6_count_36 rfl (lv_at hl 1 rfl) ?_
    refine fg6 (v := .int (J zM 1)) hx hb ht hown hK hw (zs_m hz) rfl 1 wf6_75 (by decide) (nh_vi rfl) dX6_count_37 ?_
    refine nh_iret hx hb hr rfl hlocks hw (Nat.zero_le _) (Nat.zero_le _) dX6_count_40 ?_
    simp only [zf_count, if_pos c3_0]
    exact im_fin rfl rfl
  by_cases c3_1 : a = 1
  · refine lv_tableIn (tgt := 41) hx hb dX6_count_3 (by rw [c3_1]; decide) (by rw [c3_1]; decide) (by rw [c3_1]; rfl) (by decide) ?_
    refine lv_aload_n hx hb dX6_count_41 rfl (lv_at hl 1 rfl) ?_
    refine fg6 (v := .int (J zM 6)) hx hb ht hown hK hw (zs_m hz) rfl 6 wf6_89 (by decide) (nh_vi rfl) dX6_count_42 ?_
    refine nh_iret hx hb hr rfl hlocks hw (Nat.zero_le _) (Nat.zero_le _) dX6_count_45 ?_
    simp only [zf_count, if_neg c3_0, if_pos c3_1]
    exact im_fin rfl rfl
  by_cases c3_2 : a = 2
  · refine lv_tableIn (tgt := 46) hx hb dX6_count_3 (by rw [c3_2]; decide) (by rw [c3_2]; decide) (by rw [c3_2]; rfl) (by decide) ?_
    refine lv_aload_n hx hb dX6_count_46 rfl (lv_at hl 1 rfl) ?_
    refine fg6 (v := .int (J zM 13)) hx hb ht hown hK hw (zs_m hz) rfl 13 wf6_92 (by decide) (nh_vi rfl) dX6_count_47 ?_
    refine nh_iret hx hb hr rfl hlocks hw (Nat.zero_le _) (Nat.zero_le _) dX6_count_50 ?_
    simp only [zf_count, if_neg c3_0, if_neg c3_1, if_pos c3_2]
    exact im_fin rfl rfl
  by_cases c3_3 : a = 3
  · refine lv_tableIn (tgt := 51) hx hb dX6_count_3 (by rw [c3_3]; decide) (by rw [c3_3]; decide) (by rw [c3_3]; rfl) (by decide) ?_
    refine lv_aload_n hx hb dX6_count_51 rfl (lv_at hl 1 rfl) ?_
    refine fg6 (v := .int (J zM 17)) hx hb ht hown hK hw (zs_m hz) rfl 17 wf6_86 (by decide) (nh_vi rfl) dX6_count_52 ?_
    refine nh_iret hx hb hr rfl hlocks hw (Nat.zero_le _) (Nat.zero_le _) dX6_count_55 ?_
    simp only [zf_count, if_neg c3_0, if_neg c3_1, if_neg c3_2, if_pos c3_3]
    exact im_fin rfl rfl
  by_cases c3_4 : a = 4
  · refine lv_tableIn (tgt := 56) hx hb dX6_count_3 (by rw [c3_4]; decide) (by rw [c3_4]; decide) (by rw [c3_4]; rfl) (by decide) ?_
    simp only [zf_count, if_neg c3_0, if_neg c3_1, if_neg c3_2, if_neg c3_3, if_pos c3_4]
    exact loop hc 0  ls _ _ hw (by omega) (by rw [nI_0]; exact lv_sub hl [1, 2, 0] rfl)
  · refine lv_tableOut (tgt := 72) hx hb dX6_count_3 (by have h0 := lv_neT c3_0 (show ((0 : Int32)).toInt = 0 from rfl); have h1 := lv_neT c3_1 (show ((1 : Int32)).toInt = 1 from rfl); have h2 := lv_neT c3_2 (show ((2 : Int32)).toInt = 2 from rfl); have h3 := lv_neT c3_3 (show ((3 : Int32)).toInt = 3 from rfl); have h4 := lv_neT c3_4 (show ((4 : Int32)).toInt = 4 from rfl); omega) (by decide) ?_
    refine lv_bipush (v := (-2)) hx hb dX6_count_72 (by decide) ?_
    refine nh_iret hx hb hr rfl hlocks hw (Nat.zero_le _) (Nat.zero_le _) dX6_count_74 ?_
    simp only [zf_count, if_neg c3_0, if_neg c3_1, if_neg c3_2, if_neg c3_3, if_neg c3_4]
    exact im_fin rfl rfl
def zf_place (J : (nh_N → Nat → Int32))  (a : Int32) (b : Int32) (d : Int32) : Int32 × (nh_N → Nat → Int32) := (if (J (zA 12) a.toNatClampNeg) = 0 then (0, (iu (iu (iu (iu (iu (iu (iu (iu (iu J (zA 5) (J (zA 7) a.toNatClampNeg).toNatClampNeg ((J (zA 5) (J (zA 7) a.toNatClampNeg).toNatClampNeg) + 1)) (zA 10) a.toNatClampNeg ((iu J (zA 5) (J (zA 7) a.toNatClampNeg).toNatClampNeg ((J (zA 5) (J (zA 7) a.toNatClampNeg).toNatClampNeg) + 1)) (zA 5) (J (zA 7) a.toNatClampNeg).toNatClampNeg)) (zA 19) (J zM 18).toNatClampNeg (J zM 17)) (zA 20) (J zM 18).toNatClampNeg a) (zA 21) (J zM 18).toNatClampNeg b) (zA 22) (J zM 18).toNatClampNeg d) zM 18 ((J zM 18) + 1)) (zA 12) a.toNatClampNeg (((iu (iu (iu (iu (iu (iu (iu J (zA 5) (J (zA 7) a.toNatClampNeg).toNatClampNeg ((J (zA 5) (J (zA 7) a.toNatClampNeg).toNatClampNeg) + 1)) (zA 10) a.toNatClampNeg ((iu J (zA 5) (J (zA 7) a.toNatClampNeg).toNatClampNeg ((J (zA 5) (J (zA 7) a.toNatClampNeg).toNatClampNeg) + 1)) (zA 5) (J (zA 7) a.toNatClampNeg).toNatClampNeg)) (zA 19) (J zM 18).toNatClampNeg (J zM 17)) (zA 20) (J zM 18).toNatClampNeg a) (zA 21) (J zM 18).toNatClampNeg b) (zA 22) (J zM 18).toNatClampNeg d) zM 18 ((J zM 18) + 1)) (zA 12) a.toNatClampNeg) + 1)) (zA 8) a.toNatClampNeg (((iu (iu (iu (iu (iu (iu (iu (iu J (zA 5) (J (zA 7) a.toNatClampNeg).toNatClampNeg ((J (zA 5) (J (zA 7) a.toNatClampNeg).toNatClampNeg) + 1)) (zA 10) a.toNatClampNeg ((iu J (zA 5) (J (zA 7) a.toNatClampNeg).toNatClampNeg ((J (zA 5) (J (zA 7) a.toNatClampNeg).toNatClampNeg) + 1)) (zA 5) (J (zA 7) a.toNatClampNeg).toNatClampNeg)) (zA 19) (J zM 18).toNatClampNeg (J zM 17)) (zA 20) (J zM 18).toNatClampNeg a) (zA 21) (J zM 18).toNatClampNeg b) (zA 22) (J zM 18).toNatClampNeg d) zM 18 ((J zM 18) + 1)) (zA 12) a.toNatClampNeg (((iu (iu (iu (iu (iu (iu (iu J (zA 5) (J (zA 7) a.toNatClampNeg).toNatClampNeg ((J (zA 5) (J (zA 7) a.toNatClampNeg).toNatClampNeg) + 1)) (zA 10) a.toNatClampNeg ((iu J (zA 5) (J (zA 7) a.toNatClampNeg).toNatClampNeg ((J (zA 5) (J (zA 7) a.toNatClampNeg).toNatClampNeg) + 1)) (zA 5) (J (zA 7) a.toNatClampNeg).toNatClampNeg)) (zA 19) (J zM 18).toNatClampNeg (J zM 17)) (zA 20) (J zM 18).toNatClampNeg a) (zA 21) (J zM 18).toNatClampNeg b) (zA 22) (J zM 18).toNatClampNeg d) zM 18 ((J zM 18) + 1)) (zA 12) a.toNatClampNeg) + 1)) (zA 8) a.toNatClampNeg) - b))) else (0, (iu (iu (iu (iu (iu (iu (iu J (zA 19) (J zM 18).toNatClampNeg (J zM 17)) (zA 20) (J zM 18).toNatClampNeg a) (zA 21) (J zM 18).toNatClampNeg b) (zA 22) (J zM 18).toNatClampNeg d) zM 18 ((J zM 18) + 1)) (zA 12) a.toNatClampNeg (((iu (iu (iu (iu (iu J (zA 19) (J zM 18).toNatClampNeg (J zM 17)) (zA 20) (J zM 18).toNatClampNeg a) (zA 21) (J zM 18).toNatClampNeg b) (zA 22) (J zM 18).toNatClampNeg d) zM 18 ((J zM 18) + 1)) (zA 12) a.toNatClampNeg) + 1)) (zA 8) a.toNatClampNeg (((iu (iu (iu (iu (iu (iu J (zA 19) (J zM 18).toNatClampNeg (J zM 17)) (zA 20) (J zM 18).toNatClampNeg a) (zA 21) (J zM 18).toNatClampNeg b) (zA 22) (J zM 18).toNatClampNeg d) zM 18 ((J zM 18) + 1)) (zA 12) a.toNatClampNeg (((iu (iu (iu (iu (iu J (zA 19) (J zM 18).toNatClampNeg (J zM 17)) (zA 20) (J zM 18).toNatClampNeg a) (zA 21) (J zM 18).toNatClampNeg b) (zA 22) (J zM 18).toNatClampNeg d) zM 18 ((J zM 18) + 1)) (zA 12) a.toNatClampNeg) + 1)) (zA 8) a.toNatClampNeg) - b))))
set_option maxHeartbeats 4000000 in
set_option maxRecDepth 100000 in
theorem zc_place (l : Launch) (D : va_G) (cA : Nat → ClassId) {S : nh_N → Option nh_C} {g : nh_N → Nat} {J : (nh_N → Nat → Int32)} {R : nh_N → Nat → Option nh_N} (hz : zSh S R) (a : Int32) (b : Int32) (d : Int32) (i : Nat) (hi : a = nI i) (hi2 : i < 200) (k : Nat) (hk : J (zA 7) i = nI k) (hk8 : k < 8) (np : Nat) (hnp : J zM 18 = nI np) (hp9 : np < 9000) (hd : d = 0 ∨ d = 1) : im_M l D cA yX6_place vX6_place 0 0 0 0 [.ref (g zM), .int a, .int b, .int d] S g J R (im_eq none S g (zf_place J a b d).2 R) := by
  refine nh_of (cc := cX6_place) (maxL := 5) (ret := none) (by decide) rfl (Nat.le_of_ble_eq_true rfl) ?_
  intro p e s m below meth c A ls hx hb hr hml hts hown hlocks hin hK hw hl
  have ht : ∀ w ∈ im_ws, w.before _ s = true := fun w h => hts w (List.mem_cons_of_mem _ h)
  have hl : lv_has ls 5 [(0, .ref (g zM)), (1, .int a), (2, .int b), (3, .int d)] := hl
  have hia : vp_in a 200 := ix_of i hi hi2 (by decide)
  have hik : vp_in (J (zA 7) a.toNatClampNeg) 8 := ix_of k (by rw [hi, nI_clamp (by omega)]; exact hk) hk8 (by decide)
  have hip : vp_in (J zM 18) 9000 := ix_of np hnp hp9 (by decide)
  refine lv_aload_n hx hb dX6_place_0 rfl (lv_at hl 0 rfl) ?_
  refine fg6 hx hb ht hown hK hw (zs_m hz) rfl 7 wf6_23 (by decide) (nh_vr rfl (zr7 hz)) dX6_place_1 ?_
  refine lv_iload_n hx hb dX6_place_4 rfl (lv_at hl 1 rfl) ?_
  refine ai_ld hx hb hK hw (zs7 hz) rfl hia dX6_place_5 ?_
  refine lv_istore (lv' := [(4, .int (J (zA 7) a.toNatClampNeg)), (0, .ref (g zM)), (1, .int a), (2, .int b), (3, .int d)]) hx hb dX6_place_6 hl (by decide) rfl (fun ls hl => ?_)
  refine lv_aload_n hx hb dX6_place_8 rfl (lv_at hl 1 rfl) ?_
  refine fg6 hx hb ht hown hK hw (zs_m hz) rfl 12 wf6_38 (by decide) (nh_vr rfl (zr12 hz)) dX6_place_9 ?_
  refine lv_iload_n hx hb dX6_place_12 rfl (lv_at hl 2 rfl) ?_
  refine ai_ld hx hb hK hw (zs12 hz) rfl hia dX6_place_13 ?_
  refine lv_if_ne (tgt := 41) hx hb dX6_place_14 (by decide) (fun c14 => ?_) (fun c14 => ?_)
  · refine lv_aload_n hx hb dX6_place_41 rfl (lv_at hl 1 rfl) ?_
    refine fg6 hx hb ht hown hK hw (zs_m hz) rfl 19 wf6_50 (by decide) (nh_vr rfl (zr19 hz)) dX6_place_42 ?_
    refine lv_aload_n hx hb dX6_place_45 rfl (lv_at hl 1 rfl) ?_
    refine fg6 (v := .int (J zM 18)) hx hb ht hown hK hw (zs_m hz) rfl 18 wf6_95 (by decide) (nh_vi rfl) dX6_place_46 ?_
    refine lv_aload_n hx hb dX6_place_49 rfl (lv_at hl 1 rfl) ?_
    refine fg6 (v := .int (J zM 17)) hx hb ht hown hK hw (zs_m hz) rfl 17 wf6_86 (by decide) (nh_vi rfl) dX6_place_50 ?_
    refine ai_st hx hb hK hw (zs19 hz) rfl hip dX6_place_53 (fun H locs J1 eJ1 hw => ?_)
    refine lv_aload_n hx hb dX6_place_54 rfl (lv_at hl 1 rfl) ?_
    refine fg6 hx hb ht hown hK hw (zs_m hz) rfl 20 wf6_53 (by decide) (nh_vr rfl (zr20 hz)) dX6_place_55 ?_
    refine lv_aload_n hx hb dX6_place_58 rfl (lv_at hl 1 rfl) ?_
    refine fg6 (v := .int (J zM 18)) hx hb ht hown hK hw (zs_m hz) rfl 18 wf6_95 (by decide) (by simp [nh_v, im_sk, iu_e, zM, zA, eJ1]) dX6_place_59 ?_
    refine lv_iload_n hx hb dX6_place_62 rfl (lv_at hl 2 rfl) ?_
    refine ai_st hx hb hK hw (zs20 hz) rfl hip dX6_place_63 (fun H locs J2 eJ2 hw => ?_)
    refine lv_aload_n hx hb dX6_place_64 rfl (lv_at hl 1 rfl) ?_
    refine fg6 hx hb ht hown hK hw (zs_m hz) rfl 21 wf6_56 (by decide) (nh_vr rfl (zr21 hz)) dX6_place_65 ?_
    refine lv_aload_n hx hb dX6_place_68 rfl (lv_at hl 1 rfl) ?_
    refine fg6 (v := .int (J zM 18)) hx hb ht hown hK hw (zs_m hz) rfl 18 wf6_95 (by decide) (by simp [nh_v, im_sk, iu_e, zM, zA, eJ2, eJ1]) dX6_place_69 ?_
    refine lv_iload_n hx hb dX6_place_72 rfl (lv_at hl 3 rfl) ?_
    refine ai_st hx hb hK hw (zs21 hz) rfl hip dX6_place_73 (fun H locs J3 eJ3 hw => ?_)
    refine lv_aload_n hx hb dX6_place_74 rfl (lv_at hl 1 rfl) ?_
    refine fg6 hx hb ht hown hK hw (zs_m hz) rfl 22 wf6_59 (by decide) (nh_vr rfl (zr22 hz)) dX6_place_75 ?_
    refine lv_aload_n hx hb dX6_place_78 rfl (lv_at hl 1 rfl) ?_
    refine fg6 (v := .int (J zM 18)) hx hb ht hown hK hw (zs_m hz) rfl 18 wf6_95 (by decide) (by simp [nh_v, im_sk, iu_e, zM, zA, eJ3, eJ2, eJ1]) dX6_place_79 ?_
    refine lv_iload_n hx hb dX6_place_82 rfl (lv_at hl 4 rfl) ?_
    refine az_st hx hb hK hw (zs22 hz) rfl hip (nb_of hd) dX6_place_83 (fun H locs J4 eJ4 hw => ?_)
    refine lv_aload_n hx hb dX6_place_84 rfl (lv_at hl 1 rfl) ?_
    refine lv_dup hx hb dX6_place_85 rfl ?_
    refine fg6 (v := .int (J zM 18)) hx hb ht hown hK hw (zs_m hz) rfl 18 wf6_95 (by decide) (by simp [nh_v, im_sk, iu_e, zM, zA, eJ4, eJ3, eJ2, eJ1]) dX6_place_86 ?_
    refine lv_iconst (v := 1) hx hb dX6_place_89 (by decide) ?_
    refine lv_iadd hx hb dX6_place_90 ?_
    refine fp6 hx hb ht hown hK hw (zs_m hz) rfl 18 wf6_95 (by decide) rfl rfl rfl rfl dX6_place_91 (fun H locs J5 eJ5 hw => ?_)
    refine lv_aload_n hx hb dX6_place_94 rfl (lv_at hl 1 rfl) ?_
    refine fg6 hx hb ht hown hK hw (zs_m hz) rfl 12 wf6_38 (by decide) (nh_vr rfl (zr12 hz)) dX6_place_95 ?_
    refine lv_iload_n hx hb dX6_place_98 rfl (lv_at hl 2 rfl) ?_
    refine lv_dup2_11 hx hb dX6_place_99 rfl rfl ?_
    refine ai_ld hx hb hK hw (zs12 hz) rfl hia dX6_place_100 ?_
    refine lv_iconst (v := 1) hx hb dX6_place_101 (by decide) ?_
    refine lv_iadd hx hb dX6_place_102 ?_
    refine ai_st hx hb hK hw (zs12 hz) rfl hia dX6_place_103 (fun H locs J6 eJ6 hw => ?_)
    refine lv_aload_n hx hb dX6_place_104 rfl (lv_at hl 1 rfl) ?_
    refine fg6 hx hb ht hown hK hw (zs_m hz) rfl 8 wf6_26 (by decide) (nh_vr rfl (zr8 hz)) dX6_place_105 ?_
    refine lv_iload_n hx hb dX6_place_108 rfl (lv_at hl 2 rfl) ?_
    refine lv_dup2_11 hx hb dX6_place_109 rfl rfl ?_
    refine ai_ld hx hb hK hw (zs8 hz) rfl hia dX6_place_110 ?_
    refine lv_iload_n hx hb dX6_place_111 rfl (lv_at hl 3 rfl) ?_
    refine lv_isub hx hb dX6_place_112 ?_
    refine ai_st hx hb hK hw (zs8 hz) rfl hia dX6_place_113 (fun H locs J7 eJ7 hw => ?_)
    refine nh_vret hx hb hr hlocks hw (Nat.zero_le _) (Nat.zero_le _) dX6_place_114 ?_
    subst eJ7
    subst eJ6
    subst eJ5
    subst eJ4
    subst eJ3
    subst eJ2
    subst eJ1
    simp only [zf_place, if_neg c14]
    exact im_fin rfl rfl
  · refine lv_aload_n hx hb dX6_place_17 rfl (lv_at hl 1 rfl) ?_
    refine fg6 hx hb ht hown hK hw (zs_m hz) rfl 5 wf6_20 (by decide) (nh_vr rfl (zr5 hz)) dX6_place_18 ?_
    refine lv_iload hx hb dX6_place_21 (lv_at hl 0 rfl) ?_
    refine lv_dup2_11 hx hb dX6_place_23 rfl rfl ?_
    refine ai_ld hx hb hK hw (zs5 hz) rfl hik dX6_place_24 ?_
    refine lv_iconst (v := 1) hx hb dX6_place_25 (by decide) ?_
    refine lv_iadd hx hb dX6_place_26 ?_
    refine ai_st hx hb hK hw (zs5 hz) rfl hik dX6_place_27 (fun H locs J8 eJ8 hw => ?_)
    refine lv_aload_n hx hb dX6_place_28 rfl (lv_at hl 1 rfl) ?_
    refine fg6 hx hb ht hown hK hw (zs_m hz) rfl 10 wf6_32 (by decide) (nh_vr rfl (zr10 hz)) dX6_place_29 ?_
    refine lv_iload_n hx hb dX6_place_32 rfl (lv_at hl 2 rfl) ?_
    refine lv_aload_n hx hb dX6_place_33 rfl (lv_at hl 1 rfl) ?_
    refine fg6 hx hb ht hown hK hw (zs_m hz) rfl 5 wf6_20 (by decide) (nh_vr rfl (zr5 hz)) dX6_place_34 ?_
    refine lv_iload hx hb dX6_place_37 (lv_at hl 0 rfl) ?_
    refine ai_ld hx hb hK hw (zs5 hz) rfl hik dX6_place_39 ?_
    refine ai_st hx hb hK hw (zs10 hz) rfl hia dX6_place_40 (fun H locs J9 eJ9 hw => ?_)
    refine lv_aload_n hx hb dX6_place_41 rfl (lv_at hl 1 rfl) ?_
    refine fg6 hx hb ht hown hK hw (zs_m hz) rfl 19 wf6_50 (by decide) (nh_vr rfl (zr19 hz)) dX6_place_42 ?_
    refine lv_aload_n hx hb dX6_place_45 rfl (lv_at hl 1 rfl) ?_
    refine fg6 (v := .int (J zM 18)) hx hb ht hown hK hw (zs_m hz) rfl 18 wf6_95 (by decide) (by simp [nh_v, im_sk, iu_e, zM, zA, eJ9, eJ8]) dX6_place_46 ?_
    refine lv_aload_n hx hb dX6_place_49 rfl (lv_at hl 1 rfl) ?_
    refine fg6 (v := .int (J zM 17)) hx hb ht hown hK hw (zs_m hz) rfl 17 wf6_86 (by decide) (by simp [nh_v, im_sk, iu_e, zM, zA, eJ9, eJ8]) dX6_place_50 ?_
    refine ai_st hx hb hK hw (zs19 hz) rfl hip dX6_place_53 (fun H locs J10 eJ10 hw => ?_)
    refine lv_aload_n hx hb dX6_place_54 rfl (lv_at hl 1 rfl) ?_
    refine fg6 hx hb ht hown hK hw (zs_m hz) rfl 20 wf6_53 (by decide) (nh_vr rfl (zr20 hz)) dX6_place_55 ?_
    refine lv_aload_n hx hb dX6_place_58 rfl (lv_at hl 1 rfl) ?_
    refine fg6 (v := .int (J zM 18)) hx hb ht hown hK hw (zs_m hz) rfl 18 wf6_95 (by decide) (by simp [nh_v, im_sk, iu_e, zM, zA, eJ10, eJ9, eJ8]) dX6_place_59 ?_
    refine lv_iload_n hx hb dX6_place_62 rfl (lv_at hl 2 rfl) ?_
    refine ai_st hx hb hK hw (zs20 hz) rfl hip dX6_place_63 (fun H locs J11 eJ11 hw => ?_)
    refine lv_aload_n hx hb dX6_place_64 rfl (lv_at hl 1 rfl) ?_
    refine fg6 hx hb ht hown hK hw (zs_m hz) rfl 21 wf6_56 (by decide) (nh_vr rfl (zr21 hz)) dX6_place_65 ?_
    refine lv_aload_n hx hb dX6_place_68 rfl (lv_at hl 1 rfl) ?_
    refine fg6 (v := .int (J zM 18)) hx hb ht hown hK hw (zs_m hz) rfl 18 wf6_95 (by decide) (by simp [nh_v, im_sk, iu_e, zM, zA, eJ11, eJ10, eJ9, eJ8]) dX6_place_69 ?_
    refine lv_iload_n hx hb dX6_place_72 rfl (lv_at hl 3 rfl) ?_
    refine ai_st hx hb hK hw (zs21 hz) rfl hip dX6_place_73 (fun H locs J12 eJ12 hw => ?_)
    refine lv_aload_n hx hb dX6_place_74 rfl (lv_at hl 1 rfl) ?_
    refine fg6 hx hb ht hown hK hw (zs_m hz) rfl 22 wf6_59 (by decide) (nh_vr rfl (zr22 hz)) dX6_place_75 ?_
    refine lv_aload_n hx hb dX6_place_78 rfl (lv_at hl 1 rfl) ?_
    refine fg6 (v := .int (J zM 18)) hx hb ht hown hK hw (zs_m hz) rfl 18 wf6_95 (by decide) (by simp [nh_v, im_sk, iu_e, zM, zA, eJ12, eJ11, eJ10, eJ9, eJ8]) dX6_place_79 ?_
    refine lv_iload_n hx hb dX6_place_82 rfl (lv_at hl 4 rfl) ?_
    refine az_st hx hb hK hw (zs22 hz) rfl hip (nb_of hd) dX6_place_83 (fun H locs J13 eJ13 hw => ?_)
    refine lv_aload_n hx hb dX6_place_84 rfl (lv_at hl 1 rfl) ?_
    refine lv_dup hx hb dX6_place_85 rfl ?_
    refine fg6 (v := .int (J zM 18)) hx hb ht hown hK hw (zs_m hz) rfl 18 wf6_95 (by decide) (by simp [nh_v, im_sk, iu_e, zM, zA, eJ13, eJ12, eJ11, eJ10, eJ9, eJ8]) dX6_place_86 ?_
    refine lv_iconst (v := 1) hx hb dX6_place_89 (by decide) ?_
    refine lv_iadd hx hb dX6_place_90 ?_
    refine fp6 hx hb ht hown hK hw (zs_m hz) rfl 18 wf6_95 (by decide) rfl rfl rfl rfl dX6_place_91 (fun H locs J14 eJ14 hw => ?_)
    refine lv_aload_n hx hb dX6_place_94 rfl (lv_at hl 1 rfl) ?_
    refine fg6 hx hb ht hown hK hw (zs_m hz) rfl 12 wf6_38 (by decide) (nh_vr rfl (zr12 hz)) dX6_place_95 ?_
    refine lv_iload_n hx hb dX6_place_98 rfl (lv_at hl 2 rfl) ?_
    refine lv_dup2_11 hx hb dX6_place_99 rfl rfl ?_
    refine ai_ld hx hb hK hw (zs12 hz) rfl hia dX6_place_100 ?_
    refine lv_iconst (v := 1) hx hb dX6_place_101 (by decide) ?_
    refine lv_iadd hx hb dX6_place_102 ?_
    refine ai_st hx hb hK hw (zs12 hz) rfl hia dX6_place_103 (fun H locs J15 eJ15 hw => ?_)
    refine lv_aload_n hx hb dX6_place_104 rfl (lv_at hl 1 rfl) ?_
    refine fg6 hx hb ht hown hK hw (zs_m hz) rfl 8 wf6_26 (by decide) (nh_vr rfl (zr8 hz)) dX6_place_105 ?_
    refine lv_iload_n hx hb dX6_place_108 rfl (lv_at hl 2 rfl) ?_
    refine lv_dup2_11 hx hb dX6_place_109 rfl rfl ?_
    refine ai_ld hx hb hK hw (zs8 hz) rfl hia dX6_place_110 ?_
    refine lv_iload_n hx hb dX6_place_111 rfl (lv_at hl 3 rfl) ?_
    refine lv_isub hx hb dX6_place_112 ?_
    refine ai_st hx hb hK hw (zs8 hz) rfl hia dX6_place_113 (fun H locs J16 eJ16 hw => ?_)
    refine nh_vret hx hb hr hlocks hw (Nat.zero_le _) (Nat.zero_le _) dX6_place_114 ?_
    subst eJ16
    subst eJ15
    subst eJ14
    subst eJ13
    subst eJ12
    subst eJ11
    subst eJ10
    subst eJ9
    subst eJ8
    simp only [zf_place, if_pos c14]
    exact im_fin rfl rfl
def zf_go2 (J : (nh_N → Nat → Int32))  (a : Int32) (x2 : Int32) (x3 : Int32) (x4 : Int32) : Int32 × (nh_N → Nat → Int32) := (if x4 < (J (zA 8) a.toNatClampNeg) then (if (J (zA 3) x2.toNatClampNeg) ≤ 0 then (if x3 = 0 then (0, (zf_place J a (J (zA 8) a.toNatClampNeg) 1).2) else (0, (iu J (zA 27) x2.toNatClampNeg 1))) else (if x4 < (J (zA 3) x2.toNatClampNeg) then (if x3 = 0 then (0, (zf_place J a (J (zA 8) a.toNatClampNeg) 1).2) else (0, (iu J (zA 27) x2.toNatClampNeg 1))) else (if ((J (zA 8) a.toNatClampNeg) - x4) < (J (zA 3) x2.toNatClampNeg) then (if x3 = 0 then (0, (zf_place J a (J (zA 8) a.toNatClampNeg) 1).2) else (0, (iu J (zA 27) x2.toNatClampNeg 1))) else (0, (iu (zf_place J a x4 0).2 (zA 27) x2.toNatClampNeg 1))))) else (0, (zf_place J a (J (zA 8) a.toNatClampNeg) 0).2))
set_option maxHeartbeats 4000000 in
set_option maxRecDepth 100000 in
theorem zw_go2 {p : Program} {l : Launch} {e : Env} {s : State} {m : MethodId} {below : List Frame} {meth : Method} {c : Code} {A : Nat → Prop} {ls : Array Slot} {H : Heap} {locs : List Loc} {D : va_G} {cA : Nat → ClassId} {S : nh_N → Option nh_C} {g : nh_N → Nat} {J : (nh_N → Nat → Int32)} {R : nh_N → Nat → Option nh_N} {av : Array Value} (hx : p.tables.exec = Jvm.exec) (hb : c.code = cX6_go) (hr : meth.sig.returnType = none) (hml : c.maxLocals = 6) (ht : ∀ w ∈ im_ws, w.before av s = true) (hown : s.vm.findClass qR6 = some m.cls) (hlocks : meth.locks = false) (hK : im_K D cA s) (hz : zSh S R) (hw : nh_S D im_cl im_sk cA A s.heap S g J R H locs) (a : Int32) (x2 : Int32) (x3 : Int32) (x4 : Int32) (hl : lv_has ls 6 [(0, .ref (g zM)), (1, .int a), (2, .int x2), (3, .int x3), (4, .int x4)]) (i : Nat) (hi : a = nI i) (hi2 : i < 200) (k : Nat) (hk : J (zA 7) i = nI k) (hk8 : k < 8) (hx2 : x2 = nI k) (np : Nat) (hnp : J zM 18 = nI np) (hp9 : np < 9000) : W p l e { frames := 1, cells := 0, slots := 0, locals := 24 } s m av below meth c H locs 0 0 (MQ below (nh_Q D im_cl im_sk cA A (im_eq none S g (zf_go2 J a x2 x3 x4).2 R)) av s 0 0 A) (F0 m 111 ls []) := by
  have hia : vp_in a 200 := ix_of i hi hi2 (by decide)
  have hik : vp_in x2 8 := ix_of k hx2 hk8 (by decide)
  refine lv_aload_n hx hb dX6_go_111 rfl (lv_at hl 0 rfl) ?_
  refine fg6 hx hb ht hown hK hw (zs_m hz) rfl 8 wf6_26 (by decide) (nh_vr rfl (zr8 hz)) dX6_go_112 ?_
  refine lv_iload_n hx hb dX6_go_115 rfl (lv_at hl 1 rfl) ?_
  refine ai_ld hx hb hK hw (zs8 hz) rfl hia dX6_go_116 ?_
  refine lv_iload hx hb dX6_go_117 (lv_at hl 4 rfl) ?_
  refine lv_icmp_gt (tgt := 137) hx hb dX6_go_119 (by decide) (fun c119 => ?_) (fun c119 => ?_)
  · refine lv_aload_n hx hb dX6_go_137 rfl (lv_at hl 0 rfl) ?_
    refine fg6 hx hb ht hown hK hw (zs_m hz) rfl 3 wf6_13 (by decide) (nh_vr rfl (zr3 hz)) dX6_go_138 ?_
    refine lv_iload_n hx hb dX6_go_141 rfl (lv_at hl 2 rfl) ?_
    refine ai_ld hx hb hK hw (zs3 hz) rfl hik dX6_go_142 ?_
    refine lv_if_le (tgt := 193) hx hb dX6_go_143 (by decide) (fun c143 => ?_) (fun c143 => ?_)
    · refine lv_iload_n hx hb dX6_go_193 rfl (lv_at hl 3 rfl) ?_
      refine lv_if_ne (tgt := 212) hx hb dX6_go_194 (by decide) (fun c194 => ?_) (fun c194 => ?_)
      · refine lv_aload_n hx hb dX6_go_212 rfl (lv_at hl 0 rfl) ?_
        refine fg6 hx hb ht hown hK hw (zs_m hz) rfl 27 wf6_68 (by decide) (nh_vr rfl (zr27 hz)) dX6_go_213 ?_
        refine lv_iload_n hx hb dX6_go_216 rfl (lv_at hl 2 rfl) ?_
        refine lv_iconst (v := 1) hx hb dX6_go_217 (by decide) ?_
        refine az_st hx hb hK hw (zs27 hz) rfl hik rfl dX6_go_218 (fun H locs J1 eJ1 hw => ?_)
        refine nh_vret hx hb hr hlocks hw (Nat.zero_le _) (Nat.zero_le _) dX6_go_219 ?_
        subst eJ1
        simp only [zf_go2, if_pos c119, if_pos c143, if_neg c194]
        exact im_fin rfl rfl
      · refine lv_aload_n hx hb dX6_go_197 rfl (lv_at hl 0 rfl) ?_
        refine lv_iload_n hx hb dX6_go_198 rfl (lv_at hl 1 rfl) ?_
        refine lv_aload_n hx hb dX6_go_199 rfl (lv_at hl 0 rfl) ?_
        refine fg6 hx hb ht hown hK hw (zs_m hz) rfl 8 wf6_26 (by decide) (nh_vr rfl (zr8 hz)) dX6_go_200 ?_
        refine lv_iload_n hx hb dX6_go_203 rfl (lv_at hl 1 rfl) ?_
        refine ai_ld hx hb hK hw (zs8 hz) rfl hia dX6_go_204 ?_
        refine lv_iconst (v := 1) hx hb dX6_go_205 (by decide) ?_
        refine kcX6_place (As := [.int a, .int (J (zA 8) a.toNatClampNeg), .int 1]) (rest := []) wm6_105 (zc_place l D cA hz a (J (zA 8) a.toNatClampNeg) 1 i hi hi2 k hk hk8 np hnp hp9 (by simp)) hx hb hml ht hown hK hw (zs_m hz) rfl rfl hl.1 rfl (by simp [Value.category]) ⟨by decide, by decide⟩ ⟨by simp, by simp⟩ dX6_go_206 (fun v S1 g1 J2 R1 H locs hp hw => ?_)
        obtain ⟨rfl, h1, h2, eJ2, h4⟩ := hp
        rw [h1, h2, h4] at hw
        clear h1 h2 h4
        show W _ _ _ _ _ _ _ _ _ _ _ _ _ _ _ (F0 m 209 ls [])
        refine lv_goto (tgt := 219) hx hb dX6_go_209 (by decide) ?_
        refine nh_vret hx hb hr hlocks hw (Nat.zero_le _) (Nat.zero_le _) dX6_go_219 ?_
        subst eJ2
        simp only [zf_go2, if_pos c119, if_pos c143, if_pos c194]
        exact im_fin rfl rfl
    · refine lv_iload hx hb dX6_go_146 (lv_at hl 4 rfl) ?_
      refine lv_aload_n hx hb dX6_go_148 rfl (lv_at hl 0 rfl) ?_
      refine fg6 hx hb ht hown hK hw (zs_m hz) rfl 3 wf6_13 (by decide) (nh_vr rfl (zr3 hz)) dX6_go_149 ?_
      refine lv_iload_n hx hb dX6_go_152 rfl (lv_at hl 2 rfl) ?_
      refine ai_ld hx hb hK hw (zs3 hz) rfl hik dX6_go_153 ?_
      refine lv_icmp_lt (tgt := 193) hx hb dX6_go_154 (by decide) (fun c154 => ?_) (fun c154 => ?_)
      · refine lv_iload_n hx hb dX6_go_193 rfl (lv_at hl 3 rfl) ?_
        refine lv_if_ne (tgt := 212) hx hb dX6_go_194 (by decide) (fun c194 => ?_) (fun c194 => ?_)
        · refine lv_aload_n hx hb dX6_go_212 rfl (lv_at hl 0 rfl) ?_
          refine fg6 hx hb ht hown hK hw (zs_m hz) rfl 27 wf6_68 (by decide) (nh_vr rfl (zr27 hz)) dX6_go_213 ?_
          refine lv_iload_n hx hb dX6_go_216 rfl (lv_at hl 2 rfl) ?_
          refine lv_iconst (v := 1) hx hb dX6_go_217 (by decide) ?_
          refine az_st hx hb hK hw (zs27 hz) rfl hik rfl dX6_go_218 (fun H locs J3 eJ3 hw => ?_)
          refine nh_vret hx hb hr hlocks hw (Nat.zero_le _) (Nat.zero_le _) dX6_go_219 ?_
          subst eJ3
          simp only [zf_go2, if_pos c119, if_neg c143, if_pos c154, if_neg c194]
          exact im_fin rfl rfl
        · refine lv_aload_n hx hb dX6_go_197 rfl (lv_at hl 0 rfl) ?_
          refine lv_iload_n hx hb dX6_go_198 rfl (lv_at hl 1 rfl) ?_
          refine lv_aload_n hx hb dX6_go_199 rfl (lv_at hl 0 rfl) ?_
          refine fg6 hx hb ht hown hK hw (zs_m hz) rfl 8 wf6_26 (by decide) (nh_vr rfl (zr8 hz)) dX6_go_200 ?_
          refine lv_iload_n hx hb dX6_go_203 rfl (lv_at hl 1 rfl) ?_
          refine ai_ld hx hb hK hw (zs8 hz) rfl hia dX6_go_204 ?_
          refine lv_iconst (v := 1) hx hb dX6_go_205 (by decide) ?_
          refine kcX6_place (As := [.int a, .int (J (zA 8) a.toNatClampNeg), .int 1]) (rest := []) wm6_105 (zc_place l D cA hz a (J (zA 8) a.toNatClampNeg) 1 i hi hi2 k hk hk8 np hnp hp9 (by simp)) hx hb hml ht hown hK hw (zs_m hz) rfl rfl hl.1 rfl (by simp [Value.category]) ⟨by decide, by decide⟩ ⟨by simp, by simp⟩ dX6_go_206 (fun v S1 g1 J4 R1 H locs hp hw => ?_)
          obtain ⟨rfl, h1, h2, eJ4, h4⟩ := hp
          rw [h1, h2, h4] at hw
          clear h1 h2 h4
          show W _ _ _ _ _ _ _ _ _ _ _ _ _ _ _ (F0 m 209 ls [])
          refine lv_goto (tgt := 219) hx hb dX6_go_209 (by decide) ?_
          refine nh_vret hx hb hr hlocks hw (Nat.zero_le _) (Nat.zero_le _) dX6_go_219 ?_
          subst eJ4
          simp only [zf_go2, if_pos c119, if_neg c143, if_pos c154, if_pos c194]
          exact im_fin rfl rfl
      · refine lv_aload_n hx hb dX6_go_157 rfl (lv_at hl 0 rfl) ?_
        refine fg6 hx hb ht hown hK hw (zs_m hz) rfl 8 wf6_26 (by decide) (nh_vr rfl (zr8 hz)) dX6_go_158 ?_
        refine lv_iload_n hx hb dX6_go_161 rfl (lv_at hl 1 rfl) ?_
        refine ai_ld hx hb hK hw (zs8 hz) rfl hia dX6_go_162 ?_
        refine lv_iload hx hb dX6_go_163 (lv_at hl 4 rfl) ?_
        refine lv_isub hx hb dX6_go_165 ?_
        refine lv_aload_n hx hb dX6_go_166 rfl (lv_at hl 0 rfl) ?_
        refine fg6 hx hb ht hown hK hw (zs_m hz) rfl 3 wf6_13 (by decide) (nh_vr rfl (zr3 hz)) dX6_go_167 ?_
        refine lv_iload_n hx hb dX6_go_170 rfl (lv_at hl 2 rfl) ?_
        refine ai_ld hx hb hK hw (zs3 hz) rfl hik dX6_go_171 ?_
        refine lv_icmp_lt (tgt := 193) hx hb dX6_go_172 (by decide) (fun c172 => ?_) (fun c172 => ?_)
        · refine lv_iload_n hx hb dX6_go_193 rfl (lv_at hl 3 rfl) ?_
          refine lv_if_ne (tgt := 212) hx hb dX6_go_194 (by decide) (fun c194 => ?_) (fun c194 => ?_)
          · refine lv_aload_n hx hb dX6_go_212 rfl (lv_at hl 0 rfl) ?_
            refine fg6 hx hb ht hown hK hw (zs_m hz) rfl 27 wf6_68 (by decide) (nh_vr rfl (zr27 hz)) dX6_go_213 ?_
            refine lv_iload_n hx hb dX6_go_216 rfl (lv_at hl 2 rfl) ?_
            refine lv_iconst (v := 1) hx hb dX6_go_217 (by decide) ?_
            refine az_st hx hb hK hw (zs27 hz) rfl hik rfl dX6_go_218 (fun H locs J5 eJ5 hw => ?_)
            refine nh_vret hx hb hr hlocks hw (Nat.zero_le _) (Nat.zero_le _) dX6_go_219 ?_
            subst eJ5
            simp only [zf_go2, if_pos c119, if_neg c143, if_neg c154, if_pos c172, if_neg c194]
            exact im_fin rfl rfl
          · refine lv_aload_n hx hb dX6_go_197 rfl (lv_at hl 0 rfl) ?_
            refine lv_iload_n hx hb dX6_go_198 rfl (lv_at hl 1 rfl) ?_
            refine lv_aload_n hx hb dX6_go_199 rfl (lv_at hl 0 rfl) ?_
            refine fg6 hx hb ht hown hK hw (zs_m hz) rfl 8 wf6_26 (by decide) (nh_vr rfl (zr8 hz)) dX6_go_200 ?_
            refine lv_iload_n hx hb dX6_go_203 rfl (lv_at hl 1 rfl) ?_
            refine ai_ld hx hb hK hw (zs8 hz) rfl hia dX6_go_204 ?_
            refine lv_iconst (v := 1) hx hb dX6_go_205 (by decide) ?_
            refine kcX6_place (As := [.int a, .int (J (zA 8) a.toNatClampNeg), .int 1]) (rest := []) wm6_105 (zc_place l D cA hz a (J (zA 8) a.toNatClampNeg) 1 i hi hi2 k hk hk8 np hnp hp9 (by simp)) hx hb hml ht hown hK hw (zs_m hz) rfl rfl hl.1 rfl (by simp [Value.category]) ⟨by decide, by decide⟩ ⟨by simp, by simp⟩ dX6_go_206 (fun v S1 g1 J6 R1 H locs hp hw => ?_)
            obtain ⟨rfl, h1, h2, eJ6, h4⟩ := hp
            rw [h1, h2, h4] at hw
            clear h1 h2 h4
            show W _ _ _ _ _ _ _ _ _ _ _ _ _ _ _ (F0 m 209 ls [])
            refine lv_goto (tgt := 219) hx hb dX6_go_209 (by decide) ?_
            refine nh_vret hx hb hr hlocks hw (Nat.zero_le _) (Nat.zero_le _) dX6_go_219 ?_
            subst eJ6
            simp only [zf_go2, if_pos c119, if_neg c143, if_neg c154, if_pos c172, if_pos c194]
            exact im_fin rfl rfl
        · refine lv_aload_n hx hb dX6_go_175 rfl (lv_at hl 0 rfl) ?_
          refine lv_iload_n hx hb dX6_go_176 rfl (lv_at hl 1 rfl) ?_
          refine lv_iload hx hb dX6_go_177 (lv_at hl 4 rfl) ?_
          refine lv_iconst (v := 0) hx hb dX6_go_179 (by decide) ?_
          refine kcX6_place (As := [.int a, .int x4, .int 0]) (rest := []) wm6_105 (zc_place l D cA hz a x4 0 i hi hi2 k hk hk8 np hnp hp9 (by simp)) hx hb hml ht hown hK hw (zs_m hz) rfl rfl hl.1 rfl (by simp [Value.category]) ⟨by decide, by decide⟩ ⟨by simp, by simp⟩ dX6_go_180 (fun v S1 g1 J7 R1 H locs hp hw => ?_)
          obtain ⟨rfl, h1, h2, eJ7, h4⟩ := hp
          rw [h1, h2, h4] at hw
          clear h1 h2 h4
          show W _ _ _ _ _ _ _ _ _ _ _ _ _ _ _ (F0 m 183 ls [])
          refine lv_aload_n hx hb dX6_go_183 rfl (lv_at hl 0 rfl) ?_
          refine fg6 hx hb ht hown hK hw (zs_m hz) rfl 27 wf6_68 (by decide) (nh_vr rfl (zr27 hz)) dX6_go_184 ?_
          refine lv_iload_n hx hb dX6_go_187 rfl (lv_at hl 2 rfl) ?_
          refine lv_iconst (v := 1) hx hb dX6_go_188 (by decide) ?_
          refine az_st hx hb hK hw (zs27 hz) rfl hik rfl dX6_go_189 (fun H locs J8 eJ8 hw => ?_)
          refine lv_goto (tgt := 219) hx hb dX6_go_190 (by decide) ?_
          refine nh_vret hx hb hr hlocks hw (Nat.zero_le _) (Nat.zero_le _) dX6_go_219 ?_
          subst eJ8
          subst eJ7
          simp only [zf_go2, if_pos c119, if_neg c143, if_neg c154, if_neg c172]
          exact im_fin rfl rfl
  · refine lv_aload_n hx hb dX6_go_122 rfl (lv_at hl 0 rfl) ?_
    refine lv_iload_n hx hb dX6_go_123 rfl (lv_at hl 1 rfl) ?_
    refine lv_aload_n hx hb dX6_go_124 rfl (lv_at hl 0 rfl) ?_
    refine fg6 hx hb ht hown hK hw (zs_m hz) rfl 8 wf6_26 (by decide) (nh_vr rfl (zr8 hz)) dX6_go_125 ?_
    refine lv_iload_n hx hb dX6_go_128 rfl (lv_at hl 1 rfl) ?_
    refine ai_ld hx hb hK hw (zs8 hz) rfl hia dX6_go_129 ?_
    refine lv_iconst (v := 0) hx hb dX6_go_130 (by decide) ?_
    refine kcX6_place (As := [.int a, .int (J (zA 8) a.toNatClampNeg), .int 0]) (rest := []) wm6_105 (zc_place l D cA hz a (J (zA 8) a.toNatClampNeg) 0 i hi hi2 k hk hk8 np hnp hp9 (by simp)) hx hb hml ht hown hK hw (zs_m hz) rfl rfl hl.1 rfl (by simp [Value.category]) ⟨by decide, by decide⟩ ⟨by simp, by simp⟩ dX6_go_131 (fun v S1 g1 J9 R1 H locs hp hw => ?_)
    obtain ⟨rfl, h1, h2, eJ9, h4⟩ := hp
    rw [h1, h2, h4] at hw
    clear h1 h2 h4
    show W _ _ _ _ _ _ _ _ _ _ _ _ _ _ _ (F0 m 134 ls [])
    refine lv_goto (tgt := 219) hx hb dX6_go_134 (by decide) ?_
    refine nh_vret hx hb hr hlocks hw (Nat.zero_le _) (Nat.zero_le _) dX6_go_219 ?_
    subst eJ9
    simp only [zf_go2, if_neg c119]
    exact im_fin rfl rfl
def zf_go (J : (nh_N → Nat → Int32)) (np : Nat) (a : Int32) : Int32 × (nh_N → Nat → Int32) := (if ((iu (iu J (zA 26) (J zM 25).toNatClampNeg a) zM 25 ((J zM 25) + 1)) (zA 27) ((iu (iu J (zA 26) (J zM 25).toNatClampNeg a) zM 25 ((J zM 25) + 1)) (zA 7) a.toNatClampNeg).toNatClampNeg) = 0 then (if ((iu (iu J (zA 26) (J zM 25).toNatClampNeg a) zM 25 ((J zM 25) + 1)) (zA 2) ((iu (iu J (zA 26) (J zM 25).toNatClampNeg a) zM 25 ((J zM 25) + 1)) (zA 7) a.toNatClampNeg).toNatClampNeg) < 0 then (if 0 ≤ ((J zM 0) - (zf_standing (iu (iu J (zA 26) (J zM 25).toNatClampNeg a) zM 25 ((J zM 25) + 1)) np (J zM 17) (-1))) then zf_go2 (iu (iu J (zA 26) (J zM 25).toNatClampNeg a) zM 25 ((J zM 25) + 1)) a ((iu (iu J (zA 26) (J zM 25).toNatClampNeg a) zM 25 ((J zM 25) + 1)) (zA 7) a.toNatClampNeg) (zf_standing (iu (iu J (zA 26) (J zM 25).toNatClampNeg a) zM 25 ((J zM 25) + 1)) np (J zM 17) (-1)) ((J zM 0) - (zf_standing (iu (iu J (zA 26) (J zM 25).toNatClampNeg a) zM 25 ((J zM 25) + 1)) np (J zM 17) (-1))) else zf_go2 (iu (iu J (zA 26) (J zM 25).toNatClampNeg a) zM 25 ((J zM 25) + 1)) a ((iu (iu J (zA 26) (J zM 25).toNatClampNeg a) zM 25 ((J zM 25) + 1)) (zA 7) a.toNatClampNeg) (zf_standing (iu (iu J (zA 26) (J zM 25).toNatClampNeg a) zM 25 ((J zM 25) + 1)) np (J zM 17) (-1)) 0) else (if ((J zM 0) - (zf_standing (iu (iu J (zA 26) (J zM 25).toNatClampNeg a) zM 25 ((J zM 25) + 1)) np (J zM 17) (-1))) ≤ (((iu (iu J (zA 26) (J zM 25).toNatClampNeg a) zM 25 ((J zM 25) + 1)) (zA 2) ((iu (iu J (zA 26) (J zM 25).toNatClampNeg a) zM 25 ((J zM 25) + 1)) (zA 7) a.toNatClampNeg).toNatClampNeg) - (zf_standing (iu (iu J (zA 26) (J zM 25).toNatClampNeg a) zM 25 ((J zM 25) + 1)) np (J zM 17) ((iu (iu J (zA 26) (J zM 25).toNatClampNeg a) zM 25 ((J zM 25) + 1)) (zA 7) a.toNatClampNeg))) then (if 0 ≤ ((J zM 0) - (zf_standing (iu (iu J (zA 26) (J zM 25).toNatClampNeg a) zM 25 ((J zM 25) + 1)) np (J zM 17) (-1))) then zf_go2 (iu (iu J (zA 26) (J zM 25).toNatClampNeg a) zM 25 ((J zM 25) + 1)) a ((iu (iu J (zA 26) (J zM 25).toNatClampNeg a) zM 25 ((J zM 25) + 1)) (zA 7) a.toNatClampNeg) (zf_standing (iu (iu J (zA 26) (J zM 25).toNatClampNeg a) zM 25 ((J zM 25) + 1)) np (J zM 17) (-1)) ((J zM 0) - (zf_standing (iu (iu J (zA 26) (J zM 25).toNatClampNeg a) zM 25 ((J zM 25) + 1)) np (J zM 17) (-1))) else zf_go2 (iu (iu J (zA 26) (J zM 25).toNatClampNeg a) zM 25 ((J zM 25) + 1)) a ((iu (iu J (zA 26) (J zM 25).toNatClampNeg a) zM 25 ((J zM 25) + 1)) (zA 7) a.toNatClampNeg) (zf_standing (iu (iu J (zA 26) (J zM 25).toNatClampNeg a) zM 25 ((J zM 25) + 1)) np (J zM 17) (-1)) 0) else (if 0 ≤ (((iu (iu J (zA 26) (J zM 25).toNatClampNeg a) zM 25 ((J zM 25) + 1)) (zA 2) ((iu (iu J (zA 26) (J zM 25).toNatClampNeg a) zM 25 ((J zM 25) + 1)) (zA 7) a.toNatClampNeg).toNatClampNeg) - (zf_standing (iu (iu J (zA 26) (J zM 25).toNatClampNeg a) zM 25 ((J zM 25) + 1)) np (J zM 17) ((iu (iu J (zA 26) (J zM 25).toNatClampNeg a) zM 25 ((J zM 25) + 1)) (zA 7) a.toNatClampNeg))) then zf_go2 (iu (iu J (zA 26) (J zM 25).toNatClampNeg a) zM 25 ((J zM 25) + 1)) a ((iu (iu J (zA 26) (J zM 25).toNatClampNeg a) zM 25 ((J zM 25) + 1)) (zA 7) a.toNatClampNeg) (zf_standing (iu (iu J (zA 26) (J zM 25).toNatClampNeg a) zM 25 ((J zM 25) + 1)) np (J zM 17) (-1)) (((iu (iu J (zA 26) (J zM 25).toNatClampNeg a) zM 25 ((J zM 25) + 1)) (zA 2) ((iu (iu J (zA 26) (J zM 25).toNatClampNeg a) zM 25 ((J zM 25) + 1)) (zA 7) a.toNatClampNeg).toNatClampNeg) - (zf_standing (iu (iu J (zA 26) (J zM 25).toNatClampNeg a) zM 25 ((J zM 25) + 1)) np (J zM 17) ((iu (iu J (zA 26) (J zM 25).toNatClampNeg a) zM 25 ((J zM 25) + 1)) (zA 7) a.toNatClampNeg))) else zf_go2 (iu (iu J (zA 26) (J zM 25).toNatClampNeg a) zM 25 ((J zM 25) + 1)) a ((iu (iu J (zA 26) (J zM 25).toNatClampNeg a) zM 25 ((J zM 25) + 1)) (zA 7) a.toNatClampNeg) (zf_standing (iu (iu J (zA 26) (J zM 25).toNatClampNeg a) zM 25 ((J zM 25) + 1)) np (J zM 17) (-1)) 0))) else (0, (iu (iu J (zA 26) (J zM 25).toNatClampNeg a) zM 25 ((J zM 25) + 1))))
set_option maxHeartbeats 4000000 in
set_option maxRecDepth 100000 in
theorem zc_go (l : Launch) (D : va_G) (cA : Nat → ClassId) {S : nh_N → Option nh_C} {g : nh_N → Nat} {J : (nh_N → Nat → Int32)} {R : nh_N → Nat → Option nh_N} (hz : zSh S R) (a : Int32) (i : Nat) (hi : a = nI i) (hi2 : i < 200) (k : Nat) (hk : J (zA 7) i = nI k) (hk8 : k < 8) (np : Nat) (hnp : J zM 18 = nI np) (hp9 : np < 9000) (hpi : ∀ q, q < np → ∃ i, i < 200 ∧ J (zA 20) q = nI i) (nw : Nat) (hnw : J zM 25 = nI nw) (hw2 : nw < 200) : im_M l D cA yX6_go vX6_go 1 24 0 0 [.ref (g zM), .int a] S g J R (im_eq none S g (zf_go J np a).2 R) := by
  refine nh_of (cc := cX6_go) (maxL := 6) (ret := none) (by decide) rfl (Nat.le_of_ble_eq_true rfl) ?_
  intro p e s m below meth c A ls hx hb hr hml hts hown hlocks hin hK hw hl
  have ht : ∀ w ∈ im_ws, w.before _ s = true := fun w h => hts w (List.mem_cons_of_mem _ h)
  have hl : lv_has ls 6 [(0, .ref (g zM)), (1, .int a)] := hl
  have hia : vp_in a 200 := ix_of i hi hi2 (by decide)
  have hiw : vp_in (J zM 25) 200 := ix_of nw hnw hw2 (by decide)
  have hac : a.toNatClampNeg = i := by rw [hi]; exact nI_clamp (by omega)
  refine lv_aload_n hx hb dX6_go_0 rfl (lv_at hl 0 rfl) ?_
  refine fg6 hx hb ht hown hK hw (zs_m hz) rfl 26 wf6_65 (by decide) (nh_vr rfl (zr26 hz)) dX6_go_1 ?_
  refine lv_aload_n hx hb dX6_go_4 rfl (lv_at hl 0 rfl) ?_
  refine fg6 (v := .int (J zM 25)) hx hb ht hown hK hw (zs_m hz) rfl 25 wf6_98 (by decide) (nh_vi rfl) dX6_go_5 ?_
  refine lv_iload_n hx hb dX6_go_8 rfl (lv_at hl 1 rfl) ?_
  refine ai_st hx hb hK hw (zs26 hz) rfl hiw dX6_go_9 (fun H locs J1 eJ1 hw => ?_)
  refine lv_aload_n hx hb dX6_go_10 rfl (lv_at hl 0 rfl) ?_
  refine lv_dup hx hb dX6_go_11 rfl ?_
  refine fg6 (v := .int (J zM 25)) hx hb ht hown hK hw (zs_m hz) rfl 25 wf6_98 (by decide) (by simp [nh_v, im_sk, iu_e, zM, zA, eJ1]) dX6_go_12 ?_
  refine lv_iconst (v := 1) hx hb dX6_go_15 (by decide) ?_
  refine lv_iadd hx hb dX6_go_16 ?_
  refine fp6 hx hb ht hown hK hw (zs_m hz) rfl 25 wf6_98 (by decide) rfl rfl rfl rfl dX6_go_17 (fun H locs J2 eJ2 hw => ?_)
  refine lv_aload_n hx hb dX6_go_20 rfl (lv_at hl 0 rfl) ?_
  refine fg6 hx hb ht hown hK hw (zs_m hz) rfl 7 wf6_23 (by decide) (nh_vr rfl (zr7 hz)) dX6_go_21 ?_
  refine lv_iload_n hx hb dX6_go_24 rfl (lv_at hl 1 rfl) ?_
  refine ai_ld hx hb hK hw (zs7 hz) rfl hia dX6_go_25 ?_
  refine lv_istore_n (lv' := [(2, .int (J2 (zA 7) a.toNatClampNeg)), (0, .ref (g zM)), (1, .int a)]) hx hb dX6_go_26 rfl hl (by decide) rfl (fun ls hl => ?_)
  have ek : (J2 (zA 7) a.toNatClampNeg) = nI k := by simp [iu_e, zM, zA, eJ2, eJ1, hac, hk]
  have hik : vp_in (J2 (zA 7) a.toNatClampNeg) 8 := ix_of k ek hk8 (by decide)
  refine lv_aload_n hx hb dX6_go_27 rfl (lv_at hl 1 rfl) ?_
  refine fg6 hx hb ht hown hK hw (zs_m hz) rfl 27 wf6_68 (by decide) (nh_vr rfl (zr27 hz)) dX6_go_28 ?_
  refine lv_iload_n hx hb dX6_go_31 rfl (lv_at hl 0 rfl) ?_
  refine az_ld hx hb hK hw (zs27 hz) rfl hik dX6_go_32 ?_
  refine lv_if_eq (tgt := 37) hx hb dX6_go_33 (by decide) (fun c33 => ?_) (fun c33 => ?_)
  · refine lv_aload_n hx hb dX6_go_37 rfl (lv_at hl 1 rfl) ?_
    refine lv_aload_n hx hb dX6_go_38 rfl (lv_at hl 1 rfl) ?_
    refine fg6 (v := .int (J zM 17)) hx hb ht hown hK hw (zs_m hz) rfl 17 wf6_86 (by decide) (by simp [nh_v, im_sk, iu_e, zM, zA, eJ2, eJ1]) dX6_go_39 ?_
    refine lv_iconst (v := (-1)) hx hb dX6_go_42 (by decide) ?_
    refine kcX6_standing (As := [.int (J zM 17), .int (-1)]) (rest := []) wm6_101 (zc_standing l D cA hz (J zM 17) (-1) np (by simp [iu_e, zM, zA, eJ2, eJ1, hnp]) (by omega) (by simpa [iu_e, zM, zA, eJ2, eJ1] using hpi)) hx hb hml ht hown hK hw (zs_m hz) rfl rfl hl.1 rfl (by simp [Value.category]) ⟨by decide, by decide⟩ ⟨by simp, by simp⟩ dX6_go_43 (fun v S1 g1 I1 R1 H locs hp hw => ?_)
    obtain ⟨rfl, h1, h2, h3, h4⟩ := hp
    rw [h1, h2, h3, h4] at hw
    clear h1 h2 h3 h4
    show W _ _ _ _ _ _ _ _ _ _ _ _ _ _ _ (F0 m 46 ls [.int (zf_standing J2 np (J zM 17) (-1))])
    refine lv_istore_n (lv' := [(3, .int (zf_standing J2 np (J zM 17) (-1))), (2, .int (J2 (zA 7) a.toNatClampNeg)), (0, .ref (g zM)), (1, .int a)]) hx hb dX6_go_46 rfl hl (by decide) rfl (fun ls hl => ?_)
    refine lv_aload_n hx hb dX6_go_47 rfl (lv_at hl 2 rfl) ?_
    refine fg6 (v := .int (J zM 0)) hx hb ht hown hK hw (zs_m hz) rfl 0 wf6_71 (by decide) (by simp [nh_v, im_sk, iu_e, zM, zA, eJ2, eJ1]) dX6_go_48 ?_
    refine lv_iload_n hx hb dX6_go_51 rfl (lv_at hl 0 rfl) ?_
    refine lv_isub hx hb dX6_go_52 ?_
    refine lv_istore (lv' := [(4, .int ((J zM 0) - (zf_standing J2 np (J zM 17) (-1)))), (3, .int (zf_standing J2 np (J zM 17) (-1))), (2, .int (J2 (zA 7) a.toNatClampNeg)), (0, .ref (g zM)), (1, .int a)]) hx hb dX6_go_53 hl (by decide) rfl (fun ls hl => ?_)
    refine lv_aload_n hx hb dX6_go_55 rfl (lv_at hl 3 rfl) ?_
    refine fg6 hx hb ht hown hK hw (zs_m hz) rfl 2 wf6_7 (by decide) (nh_vr rfl (zr2 hz)) dX6_go_56 ?_
    refine lv_iload_n hx hb dX6_go_59 rfl (lv_at hl 2 rfl) ?_
    refine ai_ld hx hb hK hw (zs2 hz) rfl hik dX6_go_60 ?_
    refine lv_aload_n hx hb dX6_go_61 rfl (lv_at hl 3 rfl) ?_
    refine lv_aload_n hx hb dX6_go_62 rfl (lv_at hl 3 rfl) ?_
    refine fg6 (v := .int (J zM 17)) hx hb ht hown hK hw (zs_m hz) rfl 17 wf6_86 (by decide) (by simp [nh_v, im_sk, iu_e, zM, zA, eJ2, eJ1]) dX6_go_63 ?_
    refine lv_iload_n hx hb dX6_go_66 rfl (lv_at hl 2 rfl) ?_
    refine kcX6_standing (As := [.int (J zM 17), .int (J2 (zA 7) a.toNatClampNeg)]) (rest := [.int (J2 (zA 2) (J2 (zA 7) a.toNatClampNeg).toNatClampNeg)]) wm6_101 (zc_standing l D cA hz (J zM 17) (J2 (zA 7) a.toNatClampNeg) np (by simp [iu_e, zM, zA, eJ2, eJ1, hnp]) (by omega) (by simpa [iu_e, zM, zA, eJ2, eJ1] using hpi)) hx hb hml ht hown hK hw (zs_m hz) rfl rfl hl.1 rfl (by simp [Value.category]) ⟨by decide, by decide⟩ ⟨by simp, by simp⟩ dX6_go_67 (fun v S1 g1 I1 R1 H locs hp hw => ?_)
    obtain ⟨rfl, h1, h2, h3, h4⟩ := hp
    rw [h1, h2, h3, h4] at hw
    clear h1 h2 h3 h4
    show W _ _ _ _ _ _ _ _ _ _ _ _ _ _ _ (F0 m 70 ls [.int (zf_standing J2 np (J zM 17) (J2 (zA 7) a.toNatClampNeg)), .int (J2 (zA 2) (J2 (zA 7) a.toNatClampNeg).toNatClampNeg)])
    refine lv_isub hx hb dX6_go_70 ?_
    refine lv_istore (lv' := [(5, .int ((J2 (zA 2) (J2 (zA 7) a.toNatClampNeg).toNatClampNeg) - (zf_standing J2 np (J zM 17) (J2 (zA 7) a.toNatClampNeg)))), (4, .int ((J zM 0) - (zf_standing J2 np (J zM 17) (-1)))), (3, .int (zf_standing J2 np (J zM 17) (-1))), (2, .int (J2 (zA 7) a.toNatClampNeg)), (0, .ref (g zM)), (1, .int a)]) hx hb dX6_go_71 hl (by decide) rfl (fun ls hl => ?_)
    refine lv_aload_n hx hb dX6_go_73 rfl (lv_at hl 4 rfl) ?_
    refine fg6 hx hb ht hown hK hw (zs_m hz) rfl 2 wf6_7 (by decide) (nh_vr rfl (zr2 hz)) dX6_go_74 ?_
    refine lv_iload_n hx hb dX6_go_77 rfl (lv_at hl 3 rfl) ?_
    refine ai_ld hx hb hK hw (zs2 hz) rfl hik dX6_go_78 ?_
    refine lv_if_lt (tgt := 94) hx hb dX6_go_79 (by decide) (fun c79 => ?_) (fun c79 => ?_)
    · refine lv_iload hx hb dX6_go_94 (lv_at hl 1 rfl) ?_
      refine lv_istore (lv' := [(4, .int ((J zM 0) - (zf_standing J2 np (J zM 17) (-1)))), (5, .int ((J2 (zA 2) (J2 (zA 7) a.toNatClampNeg).toNatClampNeg) - (zf_standing J2 np (J zM 17) (J2 (zA 7) a.toNatClampNeg)))), (3, .int (zf_standing J2 np (J zM 17) (-1))), (2, .int (J2 (zA 7) a.toNatClampNeg)), (0, .ref (g zM)), (1, .int a)]) hx hb dX6_go_96 hl (by decide) rfl (fun ls hl => ?_)
      refine lv_iload hx hb dX6_go_98 (lv_at hl 0 rfl) ?_
      refine lv_if_ge (tgt := 107) hx hb dX6_go_100 (by decide) (fun c100 => ?_) (fun c100 => ?_)
      · refine lv_iload hx hb dX6_go_107 (lv_at hl 0 rfl) ?_
        refine lv_istore (lv' := [(4, .int ((J zM 0) - (zf_standing J2 np (J zM 17) (-1)))), (5, .int ((J2 (zA 2) (J2 (zA 7) a.toNatClampNeg).toNatClampNeg) - (zf_standing J2 np (J zM 17) (J2 (zA 7) a.toNatClampNeg)))), (3, .int (zf_standing J2 np (J zM 17) (-1))), (2, .int (J2 (zA 7) a.toNatClampNeg)), (0, .ref (g zM)), (1, .int a)]) hx hb dX6_go_109 hl (by decide) rfl (fun ls hl => ?_)
        subst eJ2
        subst eJ1
        simp only [zf_go, if_pos c33, if_pos c79, if_pos c100]
        exact zw_go2 hx hb hr hml ht hown hlocks hK hz hw a ((iu (iu J (zA 26) (J zM 25).toNatClampNeg a) zM 25 ((J zM 25) + 1)) (zA 7) a.toNatClampNeg) (zf_standing (iu (iu J (zA 26) (J zM 25).toNatClampNeg a) zM 25 ((J zM 25) + 1)) np (J zM 17) (-1)) ((J zM 0) - (zf_standing (iu (iu J (zA 26) (J zM 25).toNatClampNeg a) zM 25 ((J zM 25) + 1)) np (J zM 17) (-1))) (lv_sub hl [4, 5, 3, 2, 0] rfl) i hi hi2 k (by simp [iu_e, zM, zA, hk]) hk8 ek np (by simp [iu_e, zM, zA, hnp]) hp9
      · refine lv_iconst (v := 0) hx hb dX6_go_103 (by decide) ?_
        refine lv_goto (tgt := 109) hx hb dX6_go_104 (by decide) ?_
        refine lv_istore (lv' := [(4, .int 0), (5, .int ((J2 (zA 2) (J2 (zA 7) a.toNatClampNeg).toNatClampNeg) - (zf_standing J2 np (J zM 17) (J2 (zA 7) a.toNatClampNeg)))), (3, .int (zf_standing J2 np (J zM 17) (-1))), (2, .int (J2 (zA 7) a.toNatClampNeg)), (0, .ref (g zM)), (1, .int a)]) hx hb dX6_go_109 hl (by decide) rfl (fun ls hl => ?_)
        subst eJ2
        subst eJ1
        simp only [zf_go, if_pos c33, if_pos c79, if_neg c100]
        exact zw_go2 hx hb hr hml ht hown hlocks hK hz hw a ((iu (iu J (zA 26) (J zM 25).toNatClampNeg a) zM 25 ((J zM 25) + 1)) (zA 7) a.toNatClampNeg) (zf_standing (iu (iu J (zA 26) (J zM 25).toNatClampNeg a) zM 25 ((J zM 25) + 1)) np (J zM 17) (-1)) 0 (lv_sub hl [4, 5, 3, 2, 0] rfl) i hi hi2 k (by simp [iu_e, zM, zA, hk]) hk8 ek np (by simp [iu_e, zM, zA, hnp]) hp9
    · refine lv_iload hx hb dX6_go_82 (lv_at hl 0 rfl) ?_
      refine lv_iload hx hb dX6_go_84 (lv_at hl 1 rfl) ?_
      refine lv_icmp_ge (tgt := 94) hx hb dX6_go_86 (by decide) (fun c86 => ?_) (fun c86 => ?_)
      · refine lv_iload hx hb dX6_go_94 (lv_at hl 1 rfl) ?_
        refine lv_istore (lv' := [(4, .int ((J zM 0) - (zf_standing J2 np (J zM 17) (-1)))), (5, .int ((J2 (zA 2) (J2 (zA 7) a.toNatClampNeg).toNatClampNeg) - (zf_standing J2 np (J zM 17) (J2 (zA 7) a.toNatClampNeg)))), (3, .int (zf_standing J2 np (J zM 17) (-1))), (2, .int (J2 (zA 7) a.toNatClampNeg)), (0, .ref (g zM)), (1, .int a)]) hx hb dX6_go_96 hl (by decide) rfl (fun ls hl => ?_)
        refine lv_iload hx hb dX6_go_98 (lv_at hl 0 rfl) ?_
        refine lv_if_ge (tgt := 107) hx hb dX6_go_100 (by decide) (fun c100 => ?_) (fun c100 => ?_)
        · refine lv_iload hx hb dX6_go_107 (lv_at hl 0 rfl) ?_
          refine lv_istore (lv' := [(4, .int ((J zM 0) - (zf_standing J2 np (J zM 17) (-1)))), (5, .int ((J2 (zA 2) (J2 (zA 7) a.toNatClampNeg).toNatClampNeg) - (zf_standing J2 np (J zM 17) (J2 (zA 7) a.toNatClampNeg)))), (3, .int (zf_standing J2 np (J zM 17) (-1))), (2, .int (J2 (zA 7) a.toNatClampNeg)), (0, .ref (g zM)), (1, .int a)]) hx hb dX6_go_109 hl (by decide) rfl (fun ls hl => ?_)
          subst eJ2
          subst eJ1
          simp only [zf_go, if_pos c33, if_neg c79, if_pos c86, if_pos c100]
          exact zw_go2 hx hb hr hml ht hown hlocks hK hz hw a ((iu (iu J (zA 26) (J zM 25).toNatClampNeg a) zM 25 ((J zM 25) + 1)) (zA 7) a.toNatClampNeg) (zf_standing (iu (iu J (zA 26) (J zM 25).toNatClampNeg a) zM 25 ((J zM 25) + 1)) np (J zM 17) (-1)) ((J zM 0) - (zf_standing (iu (iu J (zA 26) (J zM 25).toNatClampNeg a) zM 25 ((J zM 25) + 1)) np (J zM 17) (-1))) (lv_sub hl [4, 5, 3, 2, 0] rfl) i hi hi2 k (by simp [iu_e, zM, zA, hk]) hk8 ek np (by simp [iu_e, zM, zA, hnp]) hp9
        · refine lv_iconst (v := 0) hx hb dX6_go_103 (by decide) ?_
          refine lv_goto (tgt := 109) hx hb dX6_go_104 (by decide) ?_
          refine lv_istore (lv' := [(4, .int 0), (5, .int ((J2 (zA 2) (J2 (zA 7) a.toNatClampNeg).toNatClampNeg) - (zf_standing J2 np (J zM 17) (J2 (zA 7) a.toNatClampNeg)))), (3, .int (zf_standing J2 np (J zM 17) (-1))), (2, .int (J2 (zA 7) a.toNatClampNeg)), (0, .ref (g zM)), (1, .int a)]) hx hb dX6_go_109 hl (by decide) rfl (fun ls hl => ?_)
          subst eJ2
          subst eJ1
          simp only [zf_go, if_pos c33, if_neg c79, if_pos c86, if_neg c100]
          exact zw_go2 hx hb hr hml ht hown hlocks hK hz hw a ((iu (iu J (zA 26) (J zM 25).toNatClampNeg a) zM 25 ((J zM 25) + 1)) (zA 7) a.toNatClampNeg) (zf_standing (iu (iu J (zA 26) (J zM 25).toNatClampNeg a) zM 25 ((J zM 25) + 1)) np (J zM 17) (-1)) 0 (lv_sub hl [4, 5, 3, 2, 0] rfl) i hi hi2 k (by simp [iu_e, zM, zA, hk]) hk8 ek np (by simp [iu_e, zM, zA, hnp]) hp9
      · refine lv_iload hx hb dX6_go_89 (lv_at hl 0 rfl) ?_
        refine lv_goto (tgt := 96) hx hb dX6_go_91 (by decide) ?_
        refine lv_istore (lv' := [(4, .int ((J2 (zA 2) (J2 (zA 7) a.toNatClampNeg).toNatClampNeg) - (zf_standing J2 np (J zM 17) (J2 (zA 7) a.toNatClampNeg)))), (5, .int ((J2 (zA 2) (J2 (zA 7) a.toNatClampNeg).toNatClampNeg) - (zf_standing J2 np (J zM 17) (J2 (zA 7) a.toNatClampNeg)))), (3, .int (zf_standing J2 np (J zM 17) (-1))), (2, .int (J2 (zA 7) a.toNatClampNeg)), (0, .ref (g zM)), (1, .int a)]) hx hb dX6_go_96 hl (by decide) rfl (fun ls hl => ?_)
        refine lv_iload hx hb dX6_go_98 (lv_at hl 0 rfl) ?_
        refine lv_if_ge (tgt := 107) hx hb dX6_go_100 (by decide) (fun c100 => ?_) (fun c100 => ?_)
        · refine lv_iload hx hb dX6_go_107 (lv_at hl 0 rfl) ?_
          refine lv_istore (lv' := [(4, .int ((J2 (zA 2) (J2 (zA 7) a.toNatClampNeg).toNatClampNeg) - (zf_standing J2 np (J zM 17) (J2 (zA 7) a.toNatClampNeg)))), (5, .int ((J2 (zA 2) (J2 (zA 7) a.toNatClampNeg).toNatClampNeg) - (zf_standing J2 np (J zM 17) (J2 (zA 7) a.toNatClampNeg)))), (3, .int (zf_standing J2 np (J zM 17) (-1))), (2, .int (J2 (zA 7) a.toNatClampNeg)), (0, .ref (g zM)), (1, .int a)]) hx hb dX6_go_109 hl (by decide) rfl (fun ls hl => ?_)
          subst eJ2
          subst eJ1
          simp only [zf_go, if_pos c33, if_neg c79, if_neg c86, if_pos c100]
          exact zw_go2 hx hb hr hml ht hown hlocks hK hz hw a ((iu (iu J (zA 26) (J zM 25).toNatClampNeg a) zM 25 ((J zM 25) + 1)) (zA 7) a.toNatClampNeg) (zf_standing (iu (iu J (zA 26) (J zM 25).toNatClampNeg a) zM 25 ((J zM 25) + 1)) np (J zM 17) (-1)) (((iu (iu J (zA 26) (J zM 25).toNatClampNeg a) zM 25 ((J zM 25) + 1)) (zA 2) ((iu (iu J (zA 26) (J zM 25).toNatClampNeg a) zM 25 ((J zM 25) + 1)) (zA 7) a.toNatClampNeg).toNatClampNeg) - (zf_standing (iu (iu J (zA 26) (J zM 25).toNatClampNeg a) zM 25 ((J zM 25) + 1)) np (J zM 17) ((iu (iu J (zA 26) (J zM 25).toNatClampNeg a) zM 25 ((J zM 25) + 1)) (zA 7) a.toNatClampNeg))) (lv_sub hl [4, 5, 3, 2, 0] rfl) i hi hi2 k (by simp [iu_e, zM, zA, hk]) hk8 ek np (by simp [iu_e, zM, zA, hnp]) hp9
        · refine lv_iconst (v := 0) hx hb dX6_go_103 (by decide) ?_
          refine lv_goto (tgt := 109) hx hb dX6_go_104 (by decide) ?_
          refine lv_istore (lv' := [(4, .int 0), (5, .int ((J2 (zA 2) (J2 (zA 7) a.toNatClampNeg).toNatClampNeg) - (zf_standing J2 np (J zM 17) (J2 (zA 7) a.toNatClampNeg)))), (3, .int (zf_standing J2 np (J zM 17) (-1))), (2, .int (J2 (zA 7) a.toNatClampNeg)), (0, .ref (g zM)), (1, .int a)]) hx hb dX6_go_109 hl (by decide) rfl (fun ls hl => ?_)
          subst eJ2
          subst eJ1
          simp only [zf_go, if_pos c33, if_neg c79, if_neg c86, if_neg c100]
          exact zw_go2 hx hb hr hml ht hown hlocks hK hz hw a ((iu (iu J (zA 26) (J zM 25).toNatClampNeg a) zM 25 ((J zM 25) + 1)) (zA 7) a.toNatClampNeg) (zf_standing (iu (iu J (zA 26) (J zM 25).toNatClampNeg a) zM 25 ((J zM 25) + 1)) np (J zM 17) (-1)) 0 (lv_sub hl [4, 5, 3, 2, 0] rfl) i hi hi2 k (by simp [iu_e, zM, zA, hk]) hk8 ek np (by simp [iu_e, zM, zA, hnp]) hp9
  · refine nh_vret hx hb hr hlocks hw (Nat.zero_le _) (Nat.zero_le _) dX6_go_36 ?_
    subst eJ2
    subst eJ1
    simp only [zf_go, if_neg c33]
    exact im_fin rfl rfl
