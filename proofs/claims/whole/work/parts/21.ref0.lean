/-! THE REFERENCE: its object zM, its arrays zA s (s: the field's place) -/
abbrev zM : nh_N := (20, 0, 0)
abbrev zA (s : Nat) : nh_N := (21, s, 0)
theorem im_fin {v v0 : Option Value} {S : nh_N → Option nh_C} {g : nh_N → Nat} {I I0 : nh_N → Nat → Int32} {R : nh_N → Nat → Option nh_N} (h1 : v = v0) (h2 : I = I0) : im_eq v0 S g I0 R v S g I R := ⟨h1, rfl, rfl, h2, rfl⟩
theorem nb_of {x : Int32} (h : x = 0 ∨ x = 1) : narrow .boolean (.int x) = .int x := by
  rcases h with rfl | rfl <;> rfl
theorem fb_of {x : Int32} (h : x = 0 ∨ x = 1) : fits .boolean (.int x) = true := by
  rcases h with rfl | rfl <;> rfl
def zSh (S : nh_N → Option nh_C) (R : nh_N → Nat → Option nh_N) : Prop := S zM = some (0, 6) ∧ (R zM 2 = some (zA 2) ∧ S (zA 2) = some (1, 8)) ∧ (R zM 3 = some (zA 3) ∧ S (zA 3) = some (1, 8)) ∧ (R zM 4 = some (zA 4) ∧ S (zA 4) = some (2, 8)) ∧ (R zM 5 = some (zA 5) ∧ S (zA 5) = some (1, 8)) ∧ (R zM 7 = some (zA 7) ∧ S (zA 7) = some (1, 200)) ∧ (R zM 8 = some (zA 8) ∧ S (zA 8) = some (1, 200)) ∧ (R zM 9 = some (zA 9) ∧ S (zA 9) = some (1, 200)) ∧ (R zM 10 = some (zA 10) ∧ S (zA 10) = some (1, 200)) ∧ (R zM 11 = some (zA 11) ∧ S (zA 11) = some (2, 200)) ∧ (R zM 12 = some (zA 12) ∧ S (zA 12) = some (1, 200)) ∧ (R zM 14 = some (zA 14) ∧ S (zA 14) = some (1, 300)) ∧ (R zM 15 = some (zA 15) ∧ S (zA 15) = some (1, 300)) ∧ (R zM 16 = some (zA 16) ∧ S (zA 16) = some (1, 300)) ∧ (R zM 19 = some (zA 19) ∧ S (zA 19) = some (1, 9000)) ∧ (R zM 20 = some (zA 20) ∧ S (zA 20) = some (1, 9000)) ∧ (R zM 21 = some (zA 21) ∧ S (zA 21) = some (1, 9000)) ∧ (R zM 22 = some (zA 22) ∧ S (zA 22) = some (2, 9000)) ∧ (R zM 24 = some (zA 24) ∧ S (zA 24) = some (1, 200)) ∧ (R zM 26 = some (zA 26) ∧ S (zA 26) = some (1, 200)) ∧ (R zM 27 = some (zA 27) ∧ S (zA 27) = some (2, 8))
theorem zs_m {S : nh_N → Option nh_C} {R : nh_N → Nat → Option nh_N} (h : zSh S R) : S zM = some (0, 6) := h.1
theorem zr2 {S : nh_N → Option nh_C} {R : nh_N → Nat → Option nh_N} (h : zSh S R) : R zM 2 = some (zA 2) := h.2.1.1
theorem zs2 {S : nh_N → Option nh_C} {R : nh_N → Nat → Option nh_N} (h : zSh S R) : S (zA 2) = some (1, 8) := h.2.1.2
theorem zr3 {S : nh_N → Option nh_C} {R : nh_N → Nat → Option nh_N} (h : zSh S R) : R zM 3 = some (zA 3) := h.2.2.1.1
theorem zs3 {S : nh_N → Option nh_C} {R : nh_N → Nat → Option nh_N} (h : zSh S R) : S (zA 3) = some (1, 8) := h.2.2.1.2
theorem zr4 {S : nh_N → Option nh_C} {R : nh_N → Nat → Option nh_N} (h : zSh S R) : R zM 4 = some (zA 4) := h.2.2.2.1.1
theorem zs4 {S : nh_N → Option nh_C} {R : nh_N → Nat → Option nh_N} (h : zSh S R) : S (zA 4) = some (2, 8) := h.2.2.2.1.2
theorem zr5 {S : nh_N → Option nh_C} {R : nh_N → Nat → Option nh_N} (h : zSh S R) : R zM 5 = some (zA 5) := h.2.2.2.2.1.1
theorem zs5 {S : nh_N → Option nh_C} {R : nh_N → Nat → Option nh_N} (h : zSh S R) : S (zA 5) = some (1, 8) := h.2.2.2.2.1.2
theorem zr7 {S : nh_N → Option nh_C} {R : nh_N → Nat → Option nh_N} (h : zSh S R) : R zM 7 = some (zA 7) := h.2.2.2.2.2.1.1
theorem zs7 {S : nh_N → Option nh_C} {R : nh_N → Nat → Option nh_N} (h : zSh S R) : S (zA 7) = some (1, 200) := h.2.2.2.2.2.1.2
theorem zr8 {S : nh_N → Option nh_C} {R : nh_N → Nat → Option nh_N} (h : zSh S R) : R zM 8 = some (zA 8) := h.2.2.2.2.2.2.1.1
theorem zs8 {S : nh_N → Option nh_C} {R : nh_N → Nat → Option nh_N} (h : zSh S R) : S (zA 8) = some (1, 200) := h.2.2.2.2.2.2.1.2
theorem zr9 {S : nh_N → Option nh_C} {R : nh_N → Nat → Option nh_N} (h : zSh S R) : R zM 9 = some (zA 9) := h.2.2.2.2.2.2.2.1.1
theorem zs9 {S : nh_N → Option nh_C} {R : nh_N → Nat → Option nh_N} (h : zSh S R) : S (zA 9) = some (1, 200) := h.2.2.2.2.2.2.2.1.2
theorem zr10 {S : nh_N → Option nh_C} {R : nh_N → Nat → Option nh_N} (h : zSh S R) : R zM 10 = some (zA 10) := h.2.2.2.2.2.2.2.2.1.1
theorem zs10 {S : nh_N → Option nh_C} {R : nh_N → Nat → Option nh_N} (h : zSh S R) : S (zA 10) = some (1, 200) := h.2.2.2.2.2.2.2.2.1.2
theorem zr11 {S : nh_N → Option nh_C} {R : nh_N → Nat → Option nh_N} (h : zSh S R) : R zM 11 = some (zA 11) := h.2.2.2.2.2.2.2.2.2.1.1
theorem zs11 {S : nh_N → Option nh_C} {R : nh_N → Nat → Option nh_N} (h : zSh S R) : S (zA 11) = some (2, 200) := h.2.2.2.2.2.2.2.2.2.1.2
theorem zr12 {S : nh_N → Option nh_C} {R : nh_N → Nat → Option nh_N} (h : zSh S R) : R zM 12 = some (zA 12) := h.2.2.2.2.2.2.2.2.2.2.1.1
theorem zs12 {S : nh_N → Option nh_C} {R : nh_N → Nat → Option nh_N} (h : zSh S R) : S (zA 12) = some (1, 200) := h.2.2.2.2.2.2.2.2.2.2.1.2
theorem zr14 {S : nh_N → Option nh_C} {R : nh_N → Nat → Option nh_N} (h : zSh S R) : R zM 14 = some (zA 14) := h.2.2.2.2.2.2.2.2.2.2.2.1.1
theorem zs14 {S : nh_N → Option nh_C} {R : nh_N → Nat → Option nh_N} (h : zSh S R) : S (zA 14) = some (1, 300) := h.2.2.2.2.2.2.2.2.2.2.2.1.2
theorem zr15 {S : nh_N → Option nh_C} {R : nh_N → Nat → Option nh_N} (h : zSh S R) : R zM 15 = some (zA 15) := h.2.2.2.2.2.2.2.2.2.2.2.2.1.1
theorem zs15 {S : nh_N → Option nh_C} {R : nh_N → Nat → Option nh_N} (h : zSh S R) : S (zA 15) = some (1, 300) := h.2.2.2.2.2.2.2.2.2.2.2.2.1.2
theorem zr16 {S : nh_N → Option nh_C} {R : nh_N → Nat → Option nh_N} (h : zSh S R) : R zM 16 = some (zA 16) := h.2.2.2.2.2.2.2.2.2.2.2.2.2.1.1
theorem zs16 {S : nh_N → Option nh_C} {R : nh_N → Nat → Option nh_N} (h : zSh S R) : S (zA 16) = some (1, 300) := h.2.2.2.2.2.2.2.2.2.2.2.2.2.1.2
theorem zr19 {S : nh_N → Option nh_C} {R : nh_N → Nat → Option nh_N} (h : zSh S R) : R zM 19 = some (zA 19) := h.2.2.2.2.2.2.2.2.2.2.2.2.2.2.1.1
theorem zs19 {S : nh_N → Option nh_C} {R : nh_N → Nat → Option nh_N} (h : zSh S R) : S (zA 19) = some (1, 9000) := h.2.2.2.2.2.2.2.2.2.2.2.2.2.2.1.2
theorem zr20 {S : nh_N → Option nh_C} {R : nh_N → Nat → Option nh_N} (h : zSh S R) : R zM 20 = some (zA 20) := h.2.2.2.2.2.2.2.2.2.2.2.2.2.2.2.1.1
theorem zs20 {S : nh_N → Option nh_C} {R : nh_N → Nat → Option nh_N} (h : zSh S R) : S (zA 20) = some (1, 9000) := h.2.2.2.2.2.2.2.2.2.2.2.2.2.2.2.1.2
theorem zr21 {S : nh_N → Option nh_C} {R : nh_N → Nat → Option nh_N} (h : zSh S R) : R zM 21 = some (zA 21) := h.2.2.2.2.2.2.2.2.2.2.2.2.2.2.2.2.1.1
theorem zs21 {S : nh_N → Option nh_C} {R : nh_N → Nat → Option nh_N} (h : zSh S R) : S (zA 21) = some (1, 9000) := h.2.2.2.2.2.2.2.2.2.2.2.2.2.2.2.2.1.2
theorem zr22 {S : nh_N → Option nh_C} {R : nh_N → Nat → Option nh_N} (h : zSh S R) : R zM 22 = some (zA 22) := h.2.2.2.2.2.2.2.2.2.2.2.2.2.2.2.2.2.1.1
theorem zs22 {S : nh_N → Option nh_C} {R : nh_N → Nat → Option nh_N} (h : zSh S R) : S (zA 22) = some (2, 9000) := h.2.2.2.2.2.2.2.2.2.2.2.2.2.2.2.2.2.1.2
theorem zr24 {S : nh_N → Option nh_C} {R : nh_N → Nat → Option nh_N} (h : zSh S R) : R zM 24 = some (zA 24) := h.2.2.2.2.2.2.2.2.2.2.2.2.2.2.2.2.2.2.1.1
theorem zs24 {S : nh_N → Option nh_C} {R : nh_N → Nat → Option nh_N} (h : zSh S R) : S (zA 24) = some (1, 200) := h.2.2.2.2.2.2.2.2.2.2.2.2.2.2.2.2.2.2.1.2
theorem zr26 {S : nh_N → Option nh_C} {R : nh_N → Nat → Option nh_N} (h : zSh S R) : R zM 26 = some (zA 26) := h.2.2.2.2.2.2.2.2.2.2.2.2.2.2.2.2.2.2.2.1.1
theorem zs26 {S : nh_N → Option nh_C} {R : nh_N → Nat → Option nh_N} (h : zSh S R) : S (zA 26) = some (1, 200) := h.2.2.2.2.2.2.2.2.2.2.2.2.2.2.2.2.2.2.2.1.2
theorem zr27 {S : nh_N → Option nh_C} {R : nh_N → Nat → Option nh_N} (h : zSh S R) : R zM 27 = some (zA 27) := h.2.2.2.2.2.2.2.2.2.2.2.2.2.2.2.2.2.2.2.2.1
theorem zs27 {S : nh_N → Option nh_C} {R : nh_N → Nat → Option nh_N} (h : zSh S R) : S (zA 27) = some (2, 8) := h.2.2.2.2.2.2.2.2.2.2.2.2.2.2.2.2.2.2.2.2.2
theorem ix_of {x : Int32} {N : Nat} (n : Nat) (h : x = nI n) (hn : n < N) (hN : N < 2 ^ 31) : vp_in x N := by rw [h]; exact vp_in_nI hn hN
def zf_in (J : (nh_N → Nat → Int32)) (a : Int32) (b : Int32) (d : Int32) : Int32 := (if a < b then 0 else (if d < a then 0 else 1))
set_option maxHeartbeats 4000000 in
set_option maxRecDepth 100000 in
theorem zc_in (l : Launch) (D : va_G) (cA : Nat → ClassId) {S : nh_N → Option nh_C} {g : nh_N → Nat} {J : (nh_N → Nat → Int32)} {R : nh_N → Nat → Option nh_N} (a : Int32) (b : Int32) (d : Int32)  : im_M l D cA yX6_in vX6_in 0 0 0 0 [.int a, .int b, .int d] S g J R (im_eq (some (.int (zf_in J a b d))) S g J R) := by
  refine nh_of (cc := cX6_in) (maxL := 3) (ret := (some .boolean)) (by decide) rfl (Nat.le_of_ble_eq_true rfl) ?_
  intro p e s m below meth c A ls hx hb hr hml hts hown hlocks hin hK hw hl
  have ht : ∀ w ∈ im_ws, w.before _ s = true := fun w h => hts w (List.mem_cons_of_mem _ h)
  have hl : lv_has ls 3 [(0, .int a), (1, .int b), (2, .int d)] := hl
  refine lv_iload_n hx hb dX6_in_0 rfl (lv_at hl 0 rfl) ?_
  refine lv_iload_n hx hb dX6_in_1 rfl (lv_at hl 1 rfl) ?_
  refine lv_icmp_lt (tgt := 14) hx hb dX6_in_2 (by decide) (fun c2 => ?_) (fun c2 => ?_)
  · refine lv_iconst (v := 0) hx hb dX6_in_14 (by decide) ?_
    refine nh_iret hx hb hr rfl hlocks hw (Nat.zero_le _) (Nat.zero_le _) dX6_in_15 ?_
    simp only [zf_in, if_pos c2]
    exact im_fin rfl rfl
  · refine lv_iload_n hx hb dX6_in_5 rfl (lv_at hl 0 rfl) ?_
    refine lv_iload_n hx hb dX6_in_6 rfl (lv_at hl 2 rfl) ?_
    refine lv_icmp_gt (tgt := 14) hx hb dX6_in_7 (by decide) (fun c7 => ?_) (fun c7 => ?_)
    · refine lv_iconst (v := 0) hx hb dX6_in_14 (by decide) ?_
      refine nh_iret hx hb hr rfl hlocks hw (Nat.zero_le _) (Nat.zero_le _) dX6_in_15 ?_
      simp only [zf_in, if_neg c2, if_pos c7]
      exact im_fin rfl rfl
    · refine lv_iconst (v := 1) hx hb dX6_in_10 (by decide) ?_
      refine lv_goto (tgt := 15) hx hb dX6_in_11 (by decide) ?_
      refine nh_iret hx hb hr rfl hlocks hw (Nat.zero_le _) (Nat.zero_le _) dX6_in_15 ?_
      simp only [zf_in, if_neg c2, if_neg c7]
      exact im_fin rfl rfl
theorem zb_in (J : nh_N → Nat → Int32) (a b d : Int32) : zf_in J a b d = 0 ∨ zf_in J a b d = 1 := by
  unfold zf_in
  split <;> (try split) <;> simp
def zf_isClass (J : (nh_N → Nat → Int32)) (a : Int32) : Int32 := (zf_in J a 0 ((J zM 1) - 1))
set_option maxHeartbeats 4000000 in
set_option maxRecDepth 100000 in
theorem zc_isClass (l : Launch) (D : va_G) (cA : Nat → ClassId) {S : nh_N → Option nh_C} {g : nh_N → Nat} {J : (nh_N → Nat → Int32)} {R : nh_N → Nat → Option nh_N} (hz : zSh S R) (a : Int32)  : im_M l D cA yX6_isClass vX6_isClass 1 22 0 0 [.ref (g zM), .int a] S g J R (im_eq (some (.int (zf_isClass J a))) S g J R) := by
  refine nh_of (cc := cX6_isClass) (maxL := 2) (ret := (some .boolean)) (by decide) rfl (Nat.le_of_ble_eq_true rfl) ?_
  intro p e s m below meth c A ls hx hb hr hml hts hown hlocks hin hK hw hl
  have ht : ∀ w ∈ im_ws, w.before _ s = true := fun w h => hts w (List.mem_cons_of_mem _ h)
  have hl : lv_has ls 2 [(0, .ref (g zM)), (1, .int a)] := hl
  refine lv_iload_n hx hb dX6_isClass_0 rfl (lv_at hl 1 rfl) ?_
  refine lv_iconst (v := 0) hx hb dX6_isClass_1 (by decide) ?_
  refine lv_aload_n hx hb dX6_isClass_2 rfl (lv_at hl 0 rfl) ?_
  refine fg6 (v := .int (J zM 1)) hx hb ht hown hK hw (zs_m hz) rfl 1 wf6_75 (by decide) (nh_vi rfl) dX6_isClass_3 ?_
  refine lv_iconst (v := 1) hx hb dX6_isClass_6 (by decide) ?_
  refine lv_isub hx hb dX6_isClass_7 ?_
  refine kcX6_in (As := [.int a, .int 0, .int ((J zM 1) - 1)]) (rest := []) wm6_78 (zc_in l D cA a 0 ((J zM 1) - 1)) hx hb hml ht hown hK hw rfl hl.1 rfl (by simp [Value.category]) ⟨by decide, by decide⟩ ⟨by simp, by simp⟩ dX6_isClass_8 (fun v S1 g1 I1 R1 H locs hp hw => ?_)
  obtain ⟨rfl, h1, h2, h3, h4⟩ := hp
  rw [h1, h2, h3, h4] at hw
  clear h1 h2 h3 h4
  show W _ _ _ _ _ _ _ _ _ _ _ _ _ _ _ (F0 m 11 ls [.int (zf_in J a 0 ((J zM 1) - 1))])
  refine nh_iret hx hb hr (nb_of (zb_in _ _ _ _)) hlocks hw (Nat.zero_le _) (Nat.zero_le _) dX6_isClass_11 ?_
  exact im_fin rfl rfl
theorem zb_isClass (J : nh_N → Nat → Int32) (a : Int32) : zf_isClass J a = 0 ∨ zf_isClass J a = 1 := zb_in _ _ _ _
def zf_cls (J : (nh_N → Nat → Int32)) (a : Int32) (b : Int32) (d : Int32) : Int32 × (nh_N → Nat → Int32) := (if (zf_in J a (-1) 10000) = 0 then ((-2), J) else (if (zf_in J b 0 10000) = 0 then ((-2), J) else (if (J zM 1) = 8 then ((-4), J) else (((J zM 1) + 1) - 1, (iu (iu (iu (iu J (zA 2) (J zM 1).toNatClampNeg a) (zA 3) (J zM 1).toNatClampNeg b) (zA 4) (J zM 1).toNatClampNeg d) zM 1 ((J zM 1) + 1))))))
set_option maxHeartbeats 4000000 in
set_option maxRecDepth 100000 in
theorem zc_cls (l : Launch) (D : va_G) (cA : Nat → ClassId) {S : nh_N → Option nh_C} {g : nh_N → Nat} {J : (nh_N → Nat → Int32)} {R : nh_N → Nat → Option nh_N} (hz : zSh S R) (a : Int32) (b : Int32) (d : Int32) (nk : Nat) (hnk : J zM 1 = nI nk) (hk8 : nk ≤ 8) (hd : d = 0 ∨ d = 1) : im_M l D cA yX6_cls vX6_cls 1 22 0 0 [.ref (g zM), .int a, .int b, .int d] S g J R (im_eq (some (.int (zf_cls J a b d).1)) S g (zf_cls J a b d).2 R) := by
  refine nh_of (cc := cX6_cls) (maxL := 4) (ret := (some .int)) (by decide) rfl (Nat.le_of_ble_eq_true rfl) ?_
  intro p e s m below meth c A ls hx hb hr hml hts hown hlocks hin hK hw hl
  have ht : ∀ w ∈ im_ws, w.before _ s = true := fun w h => hts w (List.mem_cons_of_mem _ h)
  have hl : lv_has ls 4 [(0, .ref (g zM)), (1, .int a), (2, .int b), (3, .int d)] := hl
  refine lv_iload_n hx hb dX6_cls_0 rfl (lv_at hl 1 rfl) ?_
  refine lv_iconst (v := (-1)) hx hb dX6_cls_1 (by decide) ?_
  refine lv_sipush (v := 10000) hx hb dX6_cls_2 (by decide) ?_
  refine kcX6_in (As := [.int a, .int (-1), .int 10000]) (rest := []) wm6_78 (zc_in l D cA a (-1) 10000) hx hb hml ht hown hK hw rfl hl.1 rfl (by simp [Value.category]) ⟨by decide, by decide⟩ ⟨by simp, by simp⟩ dX6_cls_5 (fun v S1 g1 I1 R1 H locs hp hw => ?_)
  obtain ⟨rfl, h1, h2, h3, h4⟩ := hp
  rw [h1, h2, h3, h4] at hw
  clear h1 h2 h3 h4
  show W _ _ _ _ _ _ _ _ _ _ _ _ _ _ _ (F0 m 8 ls [.int (zf_in J a (-1) 10000)])
  refine lv_if_eq (tgt := 22) hx hb dX6_cls_8 (by decide) (fun c8 => ?_) (fun c8 => ?_)
  · refine lv_bipush (v := (-2)) hx hb dX6_cls_22 (by decide) ?_
    refine nh_iret hx hb hr rfl hlocks hw (Nat.zero_le _) (Nat.zero_le _) dX6_cls_24 ?_
    simp only [zf_cls, if_pos c8]
    exact im_fin rfl rfl
  · refine lv_iload_n hx hb dX6_cls_11 rfl (lv_at hl 2 rfl) ?_
    refine lv_iconst (v := 0) hx hb dX6_cls_12 (by decide) ?_
    refine lv_sipush (v := 10000) hx hb dX6_cls_13 (by decide) ?_
    refine kcX6_in (As := [.int b, .int 0, .int 10000]) (rest := []) wm6_78 (zc_in l D cA b 0 10000) hx hb hml ht hown hK hw rfl hl.1 rfl (by simp [Value.category]) ⟨by decide, by decide⟩ ⟨by simp, by simp⟩ dX6_cls_16 (fun v S1 g1 I1 R1 H locs hp hw => ?_)
    obtain ⟨rfl, h1, h2, h3, h4⟩ := hp
    rw [h1, h2, h3, h4] at hw
    clear h1 h2 h3 h4
    show W _ _ _ _ _ _ _ _ _ _ _ _ _ _ _ (F0 m 19 ls [.int (zf_in J b 0 10000)])
    refine lv_if_ne (tgt := 25) hx hb dX6_cls_19 (by decide) (fun c19 => ?_) (fun c19 => ?_)
    · refine lv_aload_n hx hb dX6_cls_25 rfl (lv_at hl 0 rfl) ?_
      refine fg6 (v := .int (J zM 1)) hx hb ht hown hK hw (zs_m hz) rfl 1 wf6_75 (by decide) (nh_vi rfl) dX6_cls_26 ?_
      refine lv_bipush (v := 8) hx hb dX6_cls_29 (by decide) ?_
      refine lv_icmp_ne (tgt := 37) hx hb dX6_cls_31 (by decide) (fun c31 => ?_) (fun c31 => ?_)
      · refine lv_aload_n hx hb dX6_cls_37 rfl (lv_at hl 0 rfl) ?_
        refine fg6 hx hb ht hown hK hw (zs_m hz) rfl 2 wf6_7 (by decide) (nh_vr rfl (zr2 hz)) dX6_cls_38 ?_
        refine lv_aload_n hx hb dX6_cls_41 rfl (lv_at hl 0 rfl) ?_
        refine fg6 (v := .int (J zM 1)) hx hb ht hown hK hw (zs_m hz) rfl 1 wf6_75 (by decide) (nh_vi rfl) dX6_cls_42 ?_
        refine lv_iload_n hx hb dX6_cls_45 rfl (lv_at hl 1 rfl) ?_
        refine ai_st hx hb hK hw (zs2 hz) rfl (ix_of nk (by simp [hnk]) (by rcases Nat.lt_or_ge nk 8 with h | h; exact h; exact absurd (by rw [hnk, show nk = 8 by omega]; rfl) c31) (by decide)) dX6_cls_46 (fun H locs J1 eJ1 hw => ?_)
        refine lv_aload_n hx hb dX6_cls_47 rfl (lv_at hl 0 rfl) ?_
        refine fg6 hx hb ht hown hK hw (zs_m hz) rfl 3 wf6_13 (by decide) (nh_vr rfl (zr3 hz)) dX6_cls_48 ?_
        refine lv_aload_n hx hb dX6_cls_51 rfl (lv_at hl 0 rfl) ?_
        refine fg6 (v := .int (J zM 1)) hx hb ht hown hK hw (zs_m hz) rfl 1 wf6_75 (by decide) (by simp [nh_v, im_sk, iu_e, zM, zA, eJ1]) dX6_cls_52 ?_
        refine lv_iload_n hx hb dX6_cls_55 rfl (lv_at hl 2 rfl) ?_
        refine ai_st hx hb hK hw (zs3 hz) rfl (ix_of nk (by simp [hnk]) (by rcases Nat.lt_or_ge nk 8 with h | h; exact h; exact absurd (by rw [hnk, show nk = 8 by omega]; rfl) c31) (by decide)) dX6_cls_56 (fun H locs J2 eJ2 hw => ?_)
        refine lv_aload_n hx hb dX6_cls_57 rfl (lv_at hl 0 rfl) ?_
        refine fg6 hx hb ht hown hK hw (zs_m hz) rfl 4 wf6_16 (by decide) (nh_vr rfl (zr4 hz)) dX6_cls_58 ?_
        refine lv_aload_n hx hb dX6_cls_61 rfl (lv_at hl 0 rfl) ?_
        refine fg6 (v := .int (J zM 1)) hx hb ht hown hK hw (zs_m hz) rfl 1 wf6_75 (by decide) (by simp [nh_v, im_sk, iu_e, zM, zA, eJ2, eJ1]) dX6_cls_62 ?_
        refine lv_iload_n hx hb dX6_cls_65 rfl (lv_at hl 3 rfl) ?_
        refine az_st hx hb hK hw (zs4 hz) rfl (ix_of nk (by simp [hnk]) (by rcases Nat.lt_or_ge nk 8 with h | h; exact h; exact absurd (by rw [hnk, show nk = 8 by omega]; rfl) c31) (by decide)) (nb_of hd) dX6_cls_66 (fun H locs J3 eJ3 hw => ?_)
        refine lv_aload_n hx hb dX6_cls_67 rfl (lv_at hl 0 rfl) ?_
        refine lv_dup hx hb dX6_cls_68 rfl ?_
        refine fg6 (v := .int (J zM 1)) hx hb ht hown hK hw (zs_m hz) rfl 1 wf6_75 (by decide) (by simp [nh_v, im_sk, iu_e, zM, zA, eJ3, eJ2, eJ1]) dX6_cls_69 ?_
        refine lv_iconst (v := 1) hx hb dX6_cls_72 (by decide) ?_
        refine lv_iadd hx hb dX6_cls_73 ?_
        refine fp6 hx hb ht hown hK hw (zs_m hz) rfl 1 wf6_75 (by decide) rfl rfl rfl rfl dX6_cls_74 (fun H locs J4 eJ4 hw => ?_)
        refine lv_aload_n hx hb dX6_cls_77 rfl (lv_at hl 0 rfl) ?_
        refine fg6 (v := .int ((J zM 1) + 1)) hx hb ht hown hK hw (zs_m hz) rfl 1 wf6_75 (by decide) (by simp [nh_v, im_sk, iu_e, zM, zA, eJ4, eJ3, eJ2, eJ1]) dX6_cls_78 ?_
        refine lv_iconst (v := 1) hx hb dX6_cls_81 (by decide) ?_
        refine lv_isub hx hb dX6_cls_82 ?_
        refine nh_iret hx hb hr rfl hlocks hw (Nat.zero_le _) (Nat.zero_le _) dX6_cls_83 ?_
        subst eJ4
        subst eJ3
        subst eJ2
        subst eJ1
        simp only [zf_cls, if_neg c8, if_neg c19, if_neg c31]
        exact im_fin rfl rfl
      · refine lv_bipush (v := (-4)) hx hb dX6_cls_34 (by decide) ?_
        refine nh_iret hx hb hr rfl hlocks hw (Nat.zero_le _) (Nat.zero_le _) dX6_cls_36 ?_
        simp only [zf_cls, if_neg c8, if_neg c19, if_pos c31]
        exact im_fin rfl rfl
    · refine lv_bipush (v := (-2)) hx hb dX6_cls_22 (by decide) ?_
      refine nh_iret hx hb hr rfl hlocks hw (Nat.zero_le _) (Nat.zero_le _) dX6_cls_24 ?_
      simp only [zf_cls, if_neg c8, if_pos c19]
      exact im_fin rfl rfl
