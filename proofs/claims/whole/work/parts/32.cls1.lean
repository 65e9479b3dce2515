def xl_topMark (J : (nh_N → Nat → Int32)) (k : Nat) (a : Int32) : Nat → Int32
  | 0 => 0
  | r + 1 => (if (J (xHM k) (nI r).toNatClampNeg) = 0 then xl_topMark J k a r else (J (xLT k) (nI r).toNatClampNeg))
def xf_topMark (J : (nh_N → Nat → Int32)) (k : Nat) (pg : Nat) (a : Int32) : Int32 := xl_topMark J k a pg
set_option maxHeartbeats 4000000 in
set_option maxRecDepth 100000 in
theorem cxf_topMark (l : Launch) (D : va_G) (cA : Nat → ClassId) {S : nh_N → Option nh_C} {g : nh_N → Nat} {J : (nh_N → Nat → Int32)} {R : nh_N → Nat → Option nh_N} (k : Nat) (hk : xKs S R k) (a : Int32) (pg : Nat) (hpg : a = nI pg) (hp4 : pg ≤ 40) : im_M l D cA yX1_topMark vX1_topMark 0 0 0 0 [.ref (g (xK k)), .int a] S g J R (im_eq (some (.int (xf_topMark J k pg a))) S g J R) := by
  refine nh_of (cc := cX1_topMark) (maxL := 3) (ret := (some .int)) (by decide) rfl (Nat.le_of_ble_eq_true rfl) ?_
  intro p e s m below meth c A ls hx hb hr hml hts hown hlocks hin hK hw hl
  have ht : ∀ w ∈ im_ws, w.before _ s = true := fun w h => hts w (List.mem_cons_of_mem _ h)
  have hl : lv_has ls 3 [(0, .ref (g (xK k))), (1, .int a)] := hl
  have loop : ∀ (r : Nat) (ls : Array Slot) (H : Heap) (locs : List Loc), nh_S D im_cl im_sk cA A s.heap S g J R H locs → r ≤ pg → lv_has ls 3 [(0, .ref (g (xK k))), (1, .int a), (2, .int (nI r - 1))] → W p l e { frames := 0, cells := 0, slots := 0, locals := 0 } s m ([.ref (g (xK k)), .int a] : List Value).toArray below meth c H locs 0 0 (MQ below (nh_Q D im_cl im_sk cA A (im_eq (some (.int (xl_topMark J k a r))) S g J R)) ([.ref (g (xK k)), .int a] : List Value).toArray s 0 0 A) (F0 m 4 ls []) := by
    intro r
    induction r with
    | zero =>
      intro ls H locs hw hj hl
      refine lv_iload_n hx hb dX1_topMark_4 rfl (lv_at hl 2 rfl) ?_
      refine lv_if_lt (tgt := 30) hx hb dX1_topMark_5 (by decide) (fun c5 => ?_) (fun c5 => ?_)
      · refine lv_iconst (v := 0) hx hb dX1_topMark_30 (by decide) ?_
        refine nh_iret hx hb hr rfl hlocks hw (Nat.zero_le _) (Nat.zero_le _) dX1_topMark_31 ?_
        exact im_fin rfl rfl
      · exact absurd (by decide) c5
    | succ r ih =>
      intro ls H locs hw hj hl
      rw [nI_pred] at hl
      have hj9 : vp_in (nI r) 40 := vp_in_nI (by omega) (by decide)
      refine lv_iload_n hx hb dX1_topMark_4 rfl (lv_at hl 2 rfl) ?_
      refine lv_if_lt (tgt := 30) hx hb dX1_topMark_5 (by decide) (fun c5 => ?_) (fun c5 => ?_)
      · exact absurd c5 (nI_pos (by omega))
      · refine lv_aload_n hx hb dX1_topMark_8 rfl (lv_at hl 0 rfl) ?_
        refine fg1 hx hb ht hown hK hw hk.1 rfl 4 wf1_15 (by decide) (nh_vr rfl hk.2.2.2.1) dX1_topMark_9 ?_
        refine lv_iload_n hx hb dX1_topMark_12 rfl (lv_at hl 2 rfl) ?_
        refine az_ld hx hb hK hw hk.2.2.2.2.1 rfl hj9 dX1_topMark_13 ?_
        refine lv_if_eq (tgt := 24) hx hb dX1_topMark_14 (by decide) (fun c14 => ?_) (fun c14 => ?_)
        · refine lv_iinc (v := (nI r) + (-1)) (lv' := [(2, .int ((nI r) + (-1))), (0, .ref (g (xK k))), (1, .int a)]) hx hb dX1_topMark_24 hl (k := 2) rfl rfl (by decide) rfl (fun ls hl => ?_)
          refine lv_goto (tgt := 4) hx hb dX1_topMark_27 (by decide) ?_
          have h9 : lv_has ls 3 [(0, .ref (g (xK k))), (1, .int a), (2, .int ((nI r) + (-1)))] := lv_sub hl [1, 2, 0] rfl
          rw [show nI r + (-1) = nI r - 1 from (Int32.sub_eq_add_neg _ _).symm] at h9
          simp only [xl_topMark, if_pos c14]
          exact ih ls _ _ hw (by omega) h9
        · refine lv_aload_n hx hb dX1_topMark_17 rfl (lv_at hl 0 rfl) ?_
          refine fg1 hx hb ht hown hK hw hk.1 rfl 6 wf1_22 (by decide) (nh_vr rfl hk.2.2.2.2.2.2.2.1) dX1_topMark_18 ?_
          refine lv_iload_n hx hb dX1_topMark_21 rfl (lv_at hl 2 rfl) ?_
          refine ai_ld hx hb hK hw hk.2.2.2.2.2.2.2.2 rfl hj9 dX1_topMark_22 ?_
          refine nh_iret hx hb hr rfl hlocks hw (Nat.zero_le _) (Nat.zero_le _) dX1_topMark_23 ?_
          simp only [xl_topMark, if_neg c14]
          exact im_fin rfl rfl
  refine lv_iload_n hx hb dX1_topMark_0 rfl (lv_at hl 1 rfl) ?_
  refine lv_iconst (v := 1) hx hb dX1_topMark_1 (by decide) ?_
  refine lv_isub hx hb dX1_topMark_2 ?_
  refine lv_istore_n (lv' := [(2, .int (a - 1)), (0, .ref (g (xK k))), (1, .int a)]) hx hb dX1_topMark_3 rfl hl (by decide) rfl (fun ls hl => ?_)
  exact loop pg ls _ _ hw (by omega) (by rw [← hpg]; exact lv_sub hl [1, 2, 0] rfl)
def xf_firstMark (J : (nh_N → Nat → Int32)) (k pg : Nat) (a : Int32) : Int32 := (if (J (xHM k) a.toNatClampNeg) = 0 then (xf_topMark J k pg a) else (J (xFT k) a.toNatClampNeg))
set_option maxHeartbeats 4000000 in
set_option maxRecDepth 100000 in
theorem cxf_firstMark (l : Launch) (D : va_G) (cA : Nat → ClassId) {S : nh_N → Option nh_C} {g : nh_N → Nat} {J : (nh_N → Nat → Int32)} {R : nh_N → Nat → Option nh_N} (k pg : Nat) (hk : xKs S R k) (a : Int32) (hpg : a = nI pg) (hp4 : pg < 40) : im_M l D cA yX1_firstMark vX1_firstMark 1 22 0 0 [.ref (g (xK k)), .int a] S g J R (im_eq (some (.int (xf_firstMark J k pg a))) S g J R) := by
  refine nh_of (cc := cX1_firstMark) (maxL := 2) (ret := (some .int)) (by decide) rfl (Nat.le_of_ble_eq_true rfl) ?_
  intro p e s m below meth c A ls hx hb hr hml hts hown hlocks hin hK hw hl
  have ht : ∀ w ∈ im_ws, w.before _ s = true := fun w h => hts w (List.mem_cons_of_mem _ h)
  have hl : lv_has ls 2 [(0, .ref (g (xK k))), (1, .int a)] := hl
  refine lv_aload_n hx hb dX1_firstMark_0 rfl (lv_at hl 0 rfl) ?_
  refine fg1 hx hb ht hown hK hw hk.1 rfl 4 wf1_15 (by decide) (nh_vr rfl hk.2.2.2.1) dX1_firstMark_1 ?_
  refine lv_iload_n hx hb dX1_firstMark_4 rfl (lv_at hl 1 rfl) ?_
  refine az_ld hx hb hK hw hk.2.2.2.2.1 rfl (ix_of pg hpg hp4 (by decide)) dX1_firstMark_5 ?_
  refine lv_if_eq (tgt := 18) hx hb dX1_firstMark_6 (by decide) (fun c6 => ?_) (fun c6 => ?_)
  · refine lv_aload_n hx hb dX1_firstMark_18 rfl (lv_at hl 0 rfl) ?_
    refine lv_iload_n hx hb dX1_firstMark_19 rfl (lv_at hl 1 rfl) ?_
    refine kcX1_topMark (As := [.int a]) (rest := []) wm1_42 (cxf_topMark l D cA k hk a pg hpg (by omega)) hx hb hml ht hown hK hw hk.1 rfl rfl hl.1 rfl (by simp [Value.category]) ⟨by decide, by decide⟩ ⟨by simp, by simp⟩ dX1_firstMark_20 (fun v S1 g1 I1 R1 H locs hp hw => ?_)
    obtain ⟨rfl, h1, h2, h3, h4⟩ := hp
    rw [h1, h2, h3, h4] at hw
    clear h1 h2 h3 h4
    show W _ _ _ _ _ _ _ _ _ _ _ _ _ _ _ (F0 m 23 ls [.int (xf_topMark J k pg a)])
    refine nh_iret hx hb hr rfl hlocks hw (Nat.zero_le _) (Nat.zero_le _) dX1_firstMark_23 ?_
    simp only [xf_firstMark, if_pos c6]
    exact im_fin rfl rfl
  · refine lv_aload_n hx hb dX1_firstMark_9 rfl (lv_at hl 0 rfl) ?_
    refine fg1 hx hb ht hown hK hw hk.1 rfl 5 wf1_19 (by decide) (nh_vr rfl hk.2.2.2.2.2.1) dX1_firstMark_10 ?_
    refine lv_iload_n hx hb dX1_firstMark_13 rfl (lv_at hl 1 rfl) ?_
    refine ai_ld hx hb hK hw hk.2.2.2.2.2.2.1 rfl (ix_of pg hpg hp4 (by decide)) dX1_firstMark_14 ?_
    refine lv_goto (tgt := 23) hx hb dX1_firstMark_15 (by decide) ?_
    refine nh_iret hx hb hr rfl hlocks hw (Nat.zero_le _) (Nat.zero_le _) dX1_firstMark_23 ?_
    simp only [xf_firstMark, if_neg c6]
    exact im_fin rfl rfl
def xf_lastMark (J : (nh_N → Nat → Int32)) (k pg : Nat) (a : Int32) : Int32 := (if (J (xHM k) a.toNatClampNeg) = 0 then (xf_topMark J k pg a) else (J (xLT k) a.toNatClampNeg))
set_option maxHeartbeats 4000000 in
set_option maxRecDepth 100000 in
theorem cxf_lastMark (l : Launch) (D : va_G) (cA : Nat → ClassId) {S : nh_N → Option nh_C} {g : nh_N → Nat} {J : (nh_N → Nat → Int32)} {R : nh_N → Nat → Option nh_N} (k pg : Nat) (hk : xKs S R k) (a : Int32) (hpg : a = nI pg) (hp4 : pg < 40) : im_M l D cA yX1_lastMark vX1_lastMark 1 22 0 0 [.ref (g (xK k)), .int a] S g J R (im_eq (some (.int (xf_lastMark J k pg a))) S g J R) := by
  refine nh_of (cc := cX1_lastMark) (maxL := 2) (ret := (some .int)) (by decide) rfl (Nat.le_of_ble_eq_true rfl) ?_
  intro p e s m below meth c A ls hx hb hr hml hts hown hlocks hin hK hw hl
  have ht : ∀ w ∈ im_ws, w.before _ s = true := fun w h => hts w (List.mem_cons_of_mem _ h)
  have hl : lv_has ls 2 [(0, .ref (g (xK k))), (1, .int a)] := hl
  refine lv_aload_n hx hb dX1_lastMark_0 rfl (lv_at hl 0 rfl) ?_
  refine fg1 hx hb ht hown hK hw hk.1 rfl 4 wf1_15 (by decide) (nh_vr rfl hk.2.2.2.1) dX1_lastMark_1 ?_
  refine lv_iload_n hx hb dX1_lastMark_4 rfl (lv_at hl 1 rfl) ?_
  refine az_ld hx hb hK hw hk.2.2.2.2.1 rfl (ix_of pg hpg hp4 (by decide)) dX1_lastMark_5 ?_
  refine lv_if_eq (tgt := 18) hx hb dX1_lastMark_6 (by decide) (fun c6 => ?_) (fun c6 => ?_)
  · refine lv_aload_n hx hb dX1_lastMark_18 rfl (lv_at hl 0 rfl) ?_
    refine lv_iload_n hx hb dX1_lastMark_19 rfl (lv_at hl 1 rfl) ?_
    refine kcX1_topMark (As := [.int a]) (rest := []) wm1_42 (cxf_topMark l D cA k hk a pg hpg (by omega)) hx hb hml ht hown hK hw hk.1 rfl rfl hl.1 rfl (by simp [Value.category]) ⟨by decide, by decide⟩ ⟨by simp, by simp⟩ dX1_lastMark_20 (fun v S1 g1 I1 R1 H locs hp hw => ?_)
    obtain ⟨rfl, h1, h2, h3, h4⟩ := hp
    rw [h1, h2, h3, h4] at hw
    clear h1 h2 h3 h4
    show W _ _ _ _ _ _ _ _ _ _ _ _ _ _ _ (F0 m 23 ls [.int (xf_topMark J k pg a)])
    refine nh_iret hx hb hr rfl hlocks hw (Nat.zero_le _) (Nat.zero_le _) dX1_lastMark_23 ?_
    simp only [xf_lastMark, if_pos c6]
    exact im_fin rfl rfl
  · refine lv_aload_n hx hb dX1_lastMark_9 rfl (lv_at hl 0 rfl) ?_
    refine fg1 hx hb ht hown hK hw hk.1 rfl 6 wf1_22 (by decide) (nh_vr rfl hk.2.2.2.2.2.2.2.1) dX1_lastMark_10 ?_
    refine lv_iload_n hx hb dX1_lastMark_13 rfl (lv_at hl 1 rfl) ?_
    refine ai_ld hx hb hK hw hk.2.2.2.2.2.2.2.2 rfl (ix_of pg hpg hp4 (by decide)) dX1_lastMark_14 ?_
    refine lv_goto (tgt := 23) hx hb dX1_lastMark_15 (by decide) ?_
    refine nh_iret hx hb hr rfl hlocks hw (Nat.zero_le _) (Nat.zero_le _) dX1_lastMark_23 ?_
    simp only [xf_lastMark, if_neg c6]
    exact im_fin rfl rfl
/-- which of n things, of N at most, an int means -/
def xat (n : Nat) (a : Int32) : Option Nat := if 0 ≤ a.toInt ∧ a.toInt < n then some a.toNatClampNeg else none
theorem xat_some {n : Nat} {a : Int32} {j : Nat} (h : xat n a = some j) (hn : n < 2 ^ 31) : a = nI j ∧ j < n := by
  unfold xat at h
  split at h
  · rename_i h1
    cases h
    obtain ⟨q, hq, rfl⟩ := vp_in_of (vp_in_iff.mpr h1) hn
    rw [nI_clamp (by omega)]
    exact ⟨rfl, hq⟩
  · cases h
theorem xat_nI {n j : Nat} (hj : j < 2 ^ 31) : xat n (nI j) = if j < n then some j else none := by
  unfold xat
  rw [nI_toInt hj, nI_clamp hj]
  by_cases h : j < n
  · rw [if_pos (by omega), if_pos h]
  · rw [if_neg (by omega), if_neg h]
theorem xat_out {J : nh_N → Nat → Int32} {a d : Int32} {n N : Nat} (h : xf_isWithin J a 0 d = 0) (hd : d.toInt = (N : Int) - 1) (hn : n ≤ N) : xat n a = none := by
  unfold xf_isWithin at h
  unfold xat
  rw [if_neg]
  intro q
  have h1 : (0 : Int32) ≤ a := Int32.le_iff_toInt_le.mpr (by rw [Int32.toInt_zero]; exact q.1)
  have h2 : a ≤ d := Int32.le_iff_toInt_le.mpr (by rw [hd]; omega)
  simp [h1, h2] at h
theorem xat_in {J : nh_N → Nat → Int32} {a d : Int32} {N : Nat} (h : ¬ xf_isWithin J a 0 d = 0) (hd : d.toInt = (N : Int) - 1) : vp_in a N := by
  unfold xf_isWithin at h
  by_cases h1 : (0 : Int32) ≤ a
  · by_cases h2 : a ≤ d
    · rw [vp_in_iff]
      have e1 := Int32.le_iff_toInt_le.mp h1
      have e2 := Int32.le_iff_toInt_le.mp h2
      rw [Int32.toInt_zero] at e1
      omega
    · simp [h2] at h
  · simp [h1] at h
theorem xat_rd {R : nh_N → Nat → Option nh_N} {g : nh_N → Nat} {A : nh_N} {f : Nat → nh_N} {a : Int32} {n N : Nat} (hA : ∀ j, j < N → R A j = if j < n then some (f j) else none) (hin : vp_in a N) (hN : N < 2 ^ 31) : (R A a.toNatClampNeg).map g = (xat n a).map (fun j => g (f j)) := by
  obtain ⟨j, hj, rfl⟩ := vp_in_of hin hN
  rw [nI_clamp (by omega), hA j hj, xat_nI (by omega)]
  by_cases h : j < n <;> simp [h]
set_option maxHeartbeats 4000000 in
set_option maxRecDepth 100000 in
theorem cxf_kindAt (l : Launch) (D : va_G) (cA : Nat → ClassId) {S : nh_N → Option nh_C} {g : nh_N → Nat} {J : (nh_N → Nat → Int32)} {R : nh_N → Nat → Option nh_N}  (hX : xXs S R) (a : Int32) (n : Nat) (hn : n ≤ 8) (hA : ∀ j, j < 8 → R xKA j = if j < n then some (xK j) else none) : im_M l D cA yX5_kindAt vX5_kindAt 1 22 0 0 [.ref (g xX), .int a] S g J R (im_eq (some (va_rf ((xat n a).map (fun j => g (xK j))))) S g J R) := by
  refine nh_of (cc := cX5_kindAt) (maxL := 2) (ret := (some (.object "InsertMarks$Kind"))) (by decide) rfl (Nat.le_of_ble_eq_true rfl) ?_
  intro p e s m below meth c A ls hx hb hr hml hts hown hlocks hin hK hw hl
  have ht : ∀ w ∈ im_ws, w.before _ s = true := fun w h => hts w (List.mem_cons_of_mem _ h)
  have hl : lv_has ls 2 [(0, .ref (g xX)), (1, .int a)] := hl
  refine lv_iload_n hx hb dX5_kindAt_0 rfl (lv_at hl 1 rfl) ?_
  refine lv_iconst (v := 0) hx hb dX5_kindAt_1 (by decide) ?_
  refine lv_bipush (v := 7) hx hb dX5_kindAt_2 (by decide) ?_
  refine kcX5_isWithin (As := [.int a, .int 0, .int 7]) (rest := []) wm5_47 (cxf_isWithin l D cA a 0 7) hx hb hml ht hown hK hw rfl hl.1 rfl (by simp [Value.category]) ⟨by decide, by decide⟩ ⟨by simp, by simp⟩ dX5_kindAt_4 (fun v S1 g1 I1 R1 H locs hp hw => ?_)
  obtain ⟨rfl, h1, h2, h3, h4⟩ := hp
  rw [h1, h2, h3, h4] at hw
  clear h1 h2 h3 h4
  show W _ _ _ _ _ _ _ _ _ _ _ _ _ _ _ (F0 m 7 ls [.int (xf_isWithin J a 0 7)])
  refine lv_if_eq (tgt := 19) hx hb dX5_kindAt_7 (by decide) (fun c7 => ?_) (fun c7 => ?_)
  · refine lv_null hx hb dX5_kindAt_19 ?_
    refine nh_aret hx hb hr (Or.inl ⟨_, rfl⟩) (Or.inl rfl) hlocks hw (Nat.zero_le _) (Nat.zero_le _) dX5_kindAt_20 ?_
    exact im_fin (by rw [xat_out (N := 8) c7 (by decide) hn]; rfl) rfl
  · refine lv_aload_n hx hb dX5_kindAt_10 rfl (lv_at hl 0 rfl) ?_
    refine fg5 hx hb ht hown hK hw hX.1 rfl 1 wf5_11 (by decide) (nh_vr rfl hX.2.1) dX5_kindAt_11 ?_
    refine lv_iload_n hx hb dX5_kindAt_14 rfl (lv_at hl 1 rfl) ?_
    refine ar_ld1 (v := va_rf ((R xKA a.toNatClampNeg).map g)) hx hb hK hw hX.2.2.1 rfl (xat_in (N := 8) c7 (by decide)) rfl dX5_kindAt_15 ?_
    refine lv_goto (tgt := 20) hx hb dX5_kindAt_16 (by decide) ?_
    refine nh_aret hx hb hr (Or.inl ⟨_, rfl⟩) (va_rf_or _) hlocks hw (Nat.zero_le _) (Nat.zero_le _) dX5_kindAt_20 ?_
    exact im_fin (by rw [xat_rd hA (xat_in (N := 8) c7 (by decide)) (by decide)]) rfl
set_option maxHeartbeats 4000000 in
set_option maxRecDepth 100000 in
theorem cxf_insertAt (l : Launch) (D : va_G) (cA : Nat → ClassId) {S : nh_N → Option nh_C} {g : nh_N → Nat} {J : (nh_N → Nat → Int32)} {R : nh_N → Nat → Option nh_N}  (hX : xXs S R) (a : Int32) (n : Nat) (hn : n ≤ 200) (hA : ∀ j, j < 200 → R xIA j = if j < n then some (xN j) else none) : im_M l D cA yX5_insertAt vX5_insertAt 1 22 0 0 [.ref (g xX), .int a] S g J R (im_eq (some (va_rf ((xat n a).map (fun j => g (xN j))))) S g J R) := by
  refine nh_of (cc := cX5_insertAt) (maxL := 2) (ret := (some (.object "InsertMarks$Insert"))) (by decide) rfl (Nat.le_of_ble_eq_true rfl) ?_
  intro p e s m below meth c A ls hx hb hr hml hts hown hlocks hin hK hw hl
  have ht : ∀ w ∈ im_ws, w.before _ s = true := fun w h => hts w (List.mem_cons_of_mem _ h)
  have hl : lv_has ls 2 [(0, .ref (g xX)), (1, .int a)] := hl
  refine lv_iload_n hx hb dX5_insertAt_0 rfl (lv_at hl 1 rfl) ?_
  refine lv_iconst (v := 0) hx hb dX5_insertAt_1 (by decide) ?_
  refine lv_sipush (v := 199) hx hb dX5_insertAt_2 (by decide) ?_
  refine kcX5_isWithin (As := [.int a, .int 0, .int 199]) (rest := []) wm5_47 (cxf_isWithin l D cA a 0 199) hx hb hml ht hown hK hw rfl hl.1 rfl (by simp [Value.category]) ⟨by decide, by decide⟩ ⟨by simp, by simp⟩ dX5_insertAt_5 (fun v S1 g1 I1 R1 H locs hp hw => ?_)
  obtain ⟨rfl, h1, h2, h3, h4⟩ := hp
  rw [h1, h2, h3, h4] at hw
  clear h1 h2 h3 h4
  show W _ _ _ _ _ _ _ _ _ _ _ _ _ _ _ (F0 m 8 ls [.int (xf_isWithin J a 0 199)])
  refine lv_if_eq (tgt := 20) hx hb dX5_insertAt_8 (by decide) (fun c8 => ?_) (fun c8 => ?_)
  · refine lv_null hx hb dX5_insertAt_20 ?_
    refine nh_aret hx hb hr (Or.inl ⟨_, rfl⟩) (Or.inl rfl) hlocks hw (Nat.zero_le _) (Nat.zero_le _) dX5_insertAt_21 ?_
    exact im_fin (by rw [xat_out (N := 200) c8 (by decide) hn]; rfl) rfl
  · refine lv_aload_n hx hb dX5_insertAt_11 rfl (lv_at hl 0 rfl) ?_
    refine fg5 hx hb ht hown hK hw hX.1 rfl 2 wf5_17 (by decide) (nh_vr rfl hX.2.2.2.1) dX5_insertAt_12 ?_
    refine lv_iload_n hx hb dX5_insertAt_15 rfl (lv_at hl 1 rfl) ?_
    refine ar_ld0 (v := va_rf ((R xIA a.toNatClampNeg).map g)) hx hb hK hw hX.2.2.2.2.1 rfl (xat_in (N := 200) c8 (by decide)) rfl dX5_insertAt_16 ?_
    refine lv_goto (tgt := 21) hx hb dX5_insertAt_17 (by decide) ?_
    refine nh_aret hx hb hr (Or.inl ⟨_, rfl⟩) (va_rf_or _) hlocks hw (Nat.zero_le _) (Nat.zero_le _) dX5_insertAt_21 ?_
    exact im_fin (by rw [xat_rd hA (xat_in (N := 200) c8 (by decide)) (by decide)]) rfl
set_option maxHeartbeats 4000000 in
set_option maxRecDepth 100000 in
theorem cxf_closedPageAt (l : Launch) (D : va_G) (cA : Nat → ClassId) {S : nh_N → Option nh_C} {g : nh_N → Nat} {J : (nh_N → Nat → Int32)} {R : nh_N → Nat → Option nh_N}  (hX : xXs S R) (a : Int32) (n : Nat) (hn : n ≤ 40) (hA : ∀ j, j < 40 → R xPA j = if j < n then some (xP j) else none) : im_M l D cA yX5_closedPageAt vX5_closedPageAt 2 42 0 0 [.ref (g xX), .int a] S g J R (im_eq (some (va_rf ((xat n a).map (fun j => g (xP j))))) S g J R) := by
  refine nh_of (cc := cX5_closedPageAt) (maxL := 2) (ret := (some (.object "InsertMarks$Page"))) (by decide) rfl (Nat.le_of_ble_eq_true rfl) ?_
  intro p e s m below meth c A ls hx hb hr hml hts hown hlocks hin hK hw hl
  have ht : ∀ w ∈ im_ws, w.before _ s = true := fun w h => hts w (List.mem_cons_of_mem _ h)
  have hl : lv_has ls 2 [(0, .ref (g xX)), (1, .int a)] := hl
  refine lv_iload_n hx hb dX5_closedPageAt_0 rfl (lv_at hl 1 rfl) ?_
  refine kcX5_isPage (As := [.int a]) (rest := []) wm5_61 (cxf_isPage l D cA a) hx hb hml ht hown hK hw rfl hl.1 rfl (by simp [Value.category]) ⟨by decide, by decide⟩ ⟨by simp, by simp⟩ dX5_closedPageAt_1 (fun v S1 g1 I1 R1 H locs hp hw => ?_)
  obtain ⟨rfl, h1, h2, h3, h4⟩ := hp
  rw [h1, h2, h3, h4] at hw
  clear h1 h2 h3 h4
  show W _ _ _ _ _ _ _ _ _ _ _ _ _ _ _ (F0 m 4 ls [.int (xf_isPage J a)])
  refine lv_if_eq (tgt := 16) hx hb dX5_closedPageAt_4 (by decide) (fun c4 => ?_) (fun c4 => ?_)
  · refine lv_null hx hb dX5_closedPageAt_16 ?_
    refine nh_aret hx hb hr (Or.inl ⟨_, rfl⟩) (Or.inl rfl) hlocks hw (Nat.zero_le _) (Nat.zero_le _) dX5_closedPageAt_17 ?_
    exact im_fin (by rw [xat_out (N := 40) c4 (by decide) hn]; rfl) rfl
  · refine lv_aload_n hx hb dX5_closedPageAt_7 rfl (lv_at hl 0 rfl) ?_
    refine fg5 hx hb ht hown hK hw hX.1 rfl 3 wf5_23 (by decide) (nh_vr rfl hX.2.2.2.2.2.1) dX5_closedPageAt_8 ?_
    refine lv_iload_n hx hb dX5_closedPageAt_11 rfl (lv_at hl 1 rfl) ?_
    refine ar_ld3 (v := va_rf ((R xPA a.toNatClampNeg).map g)) hx hb hK hw hX.2.2.2.2.2.2.1 rfl (xat_in (N := 40) c4 (by decide)) rfl dX5_closedPageAt_12 ?_
    refine lv_goto (tgt := 17) hx hb dX5_closedPageAt_13 (by decide) ?_
    refine nh_aret hx hb hr (Or.inl ⟨_, rfl⟩) (va_rf_or _) hlocks hw (Nat.zero_le _) (Nat.zero_le _) dX5_closedPageAt_17 ?_
    exact im_fin (by rw [xat_rd hA (xat_in (N := 40) c4 (by decide)) (by decide)]) rfl
set_option maxHeartbeats 4000000 in
set_option maxRecDepth 100000 in
theorem cxf_partAt (l : Launch) (D : va_G) (cA : Nat → ClassId) {S : nh_N → Option nh_C} {g : nh_N → Nat} {J : (nh_N → Nat → Int32)} {R : nh_N → Nat → Option nh_N} (q n : Nat) (hp0 : xPs S R q n) (a : Int32) (t : Nat) (ht0 : J (xP q) 2 = nI t) (htn : t ≤ n) (hn2 : n ≤ 200) (hA : ∀ j, j < t → R (xPP q) j = some (xQ q j)) : im_M l D cA yX3_partAt vX3_partAt 1 22 0 0 [.ref (g (xP q)), .int a] S g J R (im_eq (some (va_rf ((xat t a).map (fun j => g (xQ q j))))) S g J R) := by
  refine nh_of (cc := cX3_partAt) (maxL := 2) (ret := (some (.object "InsertMarks$Part"))) (by decide) rfl (Nat.le_of_ble_eq_true rfl) ?_
  intro p e s m below meth c A ls hx hb hr hml hts hown hlocks hin hK hw hl
  have ht : ∀ w ∈ im_ws, w.before _ s = true := fun w h => hts w (List.mem_cons_of_mem _ h)
  have hl : lv_has ls 2 [(0, .ref (g (xP q))), (1, .int a)] := hl
  refine lv_iload_n hx hb dX3_partAt_0 rfl (lv_at hl 1 rfl) ?_
  refine lv_iconst (v := 0) hx hb dX3_partAt_1 (by decide) ?_
  refine lv_aload_n hx hb dX3_partAt_2 rfl (lv_at hl 0 rfl) ?_
  refine fg3 (v := .int (J (xP q) 2)) hx hb ht hown hK hw hp0.1 rfl 2 wf3_25 (by decide) (nh_vi rfl) dX3_partAt_3 ?_
  refine lv_iconst (v := 1) hx hb dX3_partAt_6 (by decide) ?_
  refine lv_isub hx hb dX3_partAt_7 ?_
  refine kn3_isWithin (As := [.int a, .int 0, .int ((J (xP q) 2) - 1)]) (rest := []) (cxf_isWithin l D cA a 0 ((J (xP q) 2) - 1)) hx hb hml ht hown hK hw rfl hl.1 rfl (by simp [Value.category]) ⟨by decide, by decide⟩ ⟨by simp, by simp⟩ dX3_partAt_8 (fun v S1 g1 I1 R1 H locs hp hw => ?_)
  obtain ⟨rfl, h1, h2, h3, h4⟩ := hp
  rw [h1, h2, h3, h4] at hw
  clear h1 h2 h3 h4
  show W _ _ _ _ _ _ _ _ _ _ _ _ _ _ _ (F0 m 11 ls [.int (xf_isWithin J a 0 ((J (xP q) 2) - 1))])
  refine lv_if_eq (tgt := 23) hx hb dX3_partAt_11 (by decide) (fun c11 => ?_) (fun c11 => ?_)
  · refine lv_null hx hb dX3_partAt_23 ?_
    refine nh_aret hx hb hr (Or.inl ⟨_, rfl⟩) (Or.inl rfl) hlocks hw (Nat.zero_le _) (Nat.zero_le _) dX3_partAt_24 ?_
    exact im_fin (by rw [xat_out (N := t) c11 (by rw [ht0]; exact pk_sub_toInt (a := t) (b := 1) (by omega) (by omega)) (Nat.le_refl _)]; rfl) rfl
  · refine lv_aload_n hx hb dX3_partAt_14 rfl (lv_at hl 0 rfl) ?_
    refine fg3 hx hb ht hown hK hw hp0.1 rfl 1 wf3_21 (by decide) (nh_vr rfl hp0.2.1) dX3_partAt_15 ?_
    refine lv_iload_n hx hb dX3_partAt_18 rfl (lv_at hl 1 rfl) ?_
    refine ar_ld4 (v := va_rf ((R (xPP q) a.toNatClampNeg).map g)) hx hb hK hw hp0.2.2 rfl (by have h := xat_in (N := t) c11 (by rw [ht0]; exact pk_sub_toInt (a := t) (b := 1) (by omega) (by omega)); obtain ⟨j, hj, rfl⟩ := vp_in_of h (by omega); exact vp_in_nI (by omega) (by omega)) rfl dX3_partAt_19 ?_
    refine lv_goto (tgt := 24) hx hb dX3_partAt_20 (by decide) ?_
    refine nh_aret hx hb hr (Or.inl ⟨_, rfl⟩) (va_rf_or _) hlocks hw (Nat.zero_le _) (Nat.zero_le _) dX3_partAt_24 ?_
    exact im_fin (by rw [xat_rd (N := t) (n := t) (f := xQ q) (fun j hj => by rw [hA j hj, if_pos hj]) (xat_in (N := t) c11 (by rw [ht0]; exact pk_sub_toInt (a := t) (b := 1) (by omega) (by omega))) (by omega)]) rfl
