def xHt (n : Nat) (_ : Nat) (J : nh_N → Nat → Int32) : Prop := J xLN 1 = nI n
def xOt (j c : Nat) (_ : nh_N → Nat → Int32) : Prop := c ≤ j
def xs_tk (a : Int32) (j : Nat) (c : Nat) (J : (nh_N → Nat → Int32)) : Nat × (nh_N → Nat → Int32) := (if (J xLR (nI j).toNatClampNeg) = a then (c, J) else ((c + 1), (iu J xLR (nI c).toNatClampNeg (J xLR (nI j).toNatClampNeg))))
def xl_tk (a : Int32) : Nat → Nat → Nat → (nh_N → Nat → Int32) → Nat × (nh_N → Nat → Int32)
  | 0, _, c, J => (c, J)
  | r + 1, j, c, J => xl_tk a r (j + 1) (xs_tk a j c J).1 (xs_tk a j c J).2
set_option maxHeartbeats 4000000 in
set_option maxRecDepth 100000 in
theorem xw_tk {p : Program} {l : Launch} {e : Env} {s : State} {m : MethodId} {below : List Frame} {meth : Method} {c0 : Code} {A : Nat → Prop} {D : va_G} {cA : Nat → ClassId} {S : nh_N → Option nh_C} {g : nh_N → Nat} {R : nh_N → Nat → Option nh_N} {av : Array Value} {Q : State → Prop} (hx : p.tables.exec = Jvm.exec) (hb : c0.code = cX2_takeOut) (hml : c0.maxLocals = 4) (ht : ∀ w ∈ im_ws, w.before av s = true) (hown : s.vm.findClass qR2 = some m.cls) (hK : im_K D cA s) (a : Int32) (hln : xLs S R)  (n : Nat) (hn2 : n ≤ 200) : ∀ (r j c : Nat) (J : (nh_N → Nat → Int32)) (H : Heap) (locs : List Loc) (ls : Array Slot), j + r = n → (∀ t, t ≤ r → xHt n (xl_tk a t j c J).1 (xl_tk a t j c J).2) → (∀ t, t < r → xOt (j + t) (xl_tk a t j c J).1 (xl_tk a t j c J).2) → nh_S D im_cl im_sk cA A s.heap S g J R H locs → lv_has ls 4 [(0, .ref (g xLN)), (1, .int a), (2, .int (nI c)), (3, .int (nI j))] → (∀ (H : Heap) (locs : List Loc) (ls : Array Slot), nh_S D im_cl im_sk cA A s.heap S g (xl_tk a r j c J).2 R H locs → lv_has ls 4 [(0, .ref (g xLN)), (1, .int a), (2, .int (nI (xl_tk a r j c J).1)), (3, .int (nI n))] → W p l e { frames := 0, cells := 0, slots := 0, locals := 0 } s m av below meth c0 H locs 0 0 Q (F0 m 43 ls [])) → W p l e { frames := 0, cells := 0, slots := 0, locals := 0 } s m av below meth c0 H locs 0 0 Q (F0 m 4 ls []) := by
  intro r
  induction r with
  | zero =>
    intro j c J H locs ls hj hh hOK hw hl kk
    have hh0 : xHt n c J := hh 0 (by omega)
    refine lv_iload_n hx hb dX2_takeOut_4 rfl (lv_at hl 3 rfl) ?_
    refine lv_aload_n hx hb dX2_takeOut_5 rfl (lv_at hl 0 rfl) ?_
    refine fg2 (v := .int (J xLN 1)) hx hb ht hown hK hw hln.1 rfl 1 wf2_15 (by decide) (nh_vi rfl) dX2_takeOut_6 ?_
    refine lv_icmp_ge (tgt := 43) hx hb dX2_takeOut_9 (by decide) (fun c9 => ?_) (fun c9 => ?_)
    · exact kk _ _ ls hw (by have h9 := lv_sub hl [0, 1, 2, 3] rfl; rw [show j = n by omega] at h9; exact h9)
    · exact absurd (by rw [show J xLN 1 = nI n from hh0]; exact nI_le (by omega) (by omega)) c9
  | succ r ih =>
    intro j c J H locs ls hj hh hOK hw hl kk
    have hh0 : xHt n c J := hh 0 (by omega)
    have hok : xOt j c J := hOK 0 (by omega)
    have hok : c ≤ j := hok
    have hj9 : vp_in (nI j) 200 := vp_in_nI (by omega) (by decide)
    have hc9 : vp_in (nI c) 200 := vp_in_nI (by omega) (by decide)
    refine lv_iload_n hx hb dX2_takeOut_4 rfl (lv_at hl 3 rfl) ?_
    refine lv_aload_n hx hb dX2_takeOut_5 rfl (lv_at hl 0 rfl) ?_
    refine fg2 (v := .int (J xLN 1)) hx hb ht hown hK hw hln.1 rfl 1 wf2_15 (by decide) (nh_vi rfl) dX2_takeOut_6 ?_
    refine lv_icmp_ge (tgt := 43) hx hb dX2_takeOut_9 (by decide) (fun c9 => ?_) (fun c9 => ?_)
    · exact absurd c9 (by rw [show J xLN 1 = nI n from hh0]; exact nI_ge (by omega) (by omega))
    · refine lv_aload_n hx hb dX2_takeOut_12 rfl (lv_at hl 0 rfl) ?_
      refine fg2 hx hb ht hown hK hw hln.1 rfl 0 wf2_9 (by decide) (nh_vr rfl hln.2.1) dX2_takeOut_13 ?_
      refine lv_iload_n hx hb dX2_takeOut_16 rfl (lv_at hl 3 rfl) ?_
      refine ai_ld hx hb hK hw hln.2.2 rfl hj9 dX2_takeOut_17 ?_
      refine lv_iload_n hx hb dX2_takeOut_18 rfl (lv_at hl 1 rfl) ?_
      refine lv_icmp_eq (tgt := 37) hx hb dX2_takeOut_19 (by decide) (fun c19 => ?_) (fun c19 => ?_)
      · refine lv_iinc (v := (nI j) + 1) (lv' := [(3, .int ((nI j) + 1)), (0, .ref (g xLN)), (1, .int a), (2, .int (nI c))]) hx hb dX2_takeOut_37 hl (k := 3) rfl rfl (by decide) rfl (fun ls hl => ?_)
        refine lv_goto (tgt := 4) hx hb dX2_takeOut_40 (by decide) ?_
        have h9 : lv_has ls 4 [(0, .ref (g xLN)), (1, .int a), (2, .int (nI c)), (3, .int ((nI j) + 1))] := lv_sub hl [1, 2, 3, 0] rfl
        rw [nI_1] at h9
        have hstep : xs_tk a j c J = (c, J) := by simp only [xs_tk, if_pos c19]
        have kk2 := kk
        simp only [xl_tk, hstep] at kk2
        exact ih (j + 1) c _ _ _ ls (by omega) (fun t h0 => by have h7 := hh (t + 1) (by omega); simp only [xl_tk, hstep] at h7; exact h7) (fun t h0 => by have h7 := hOK (t + 1) (by omega); rw [show j + (t + 1) = j + 1 + t by omega] at h7; simp only [xl_tk, hstep] at h7; exact h7) hw h9 kk2
      · refine lv_aload_n hx hb dX2_takeOut_22 rfl (lv_at hl 0 rfl) ?_
        refine fg2 hx hb ht hown hK hw hln.1 rfl 0 wf2_9 (by decide) (nh_vr rfl hln.2.1) dX2_takeOut_23 ?_
        refine lv_iload_n hx hb dX2_takeOut_26 rfl (lv_at hl 2 rfl) ?_
        refine lv_aload_n hx hb dX2_takeOut_27 rfl (lv_at hl 0 rfl) ?_
        refine fg2 hx hb ht hown hK hw hln.1 rfl 0 wf2_9 (by decide) (nh_vr rfl hln.2.1) dX2_takeOut_28 ?_
        refine lv_iload_n hx hb dX2_takeOut_31 rfl (lv_at hl 3 rfl) ?_
        refine ai_ld hx hb hK hw hln.2.2 rfl hj9 dX2_takeOut_32 ?_
        refine ai_st hx hb hK hw hln.2.2 rfl hc9 dX2_takeOut_33 (fun H locs J1 eJ1 hw => ?_)
        refine lv_iinc (v := (nI c) + 1) (lv' := [(2, .int ((nI c) + 1)), (0, .ref (g xLN)), (1, .int a), (3, .int (nI j))]) hx hb dX2_takeOut_34 hl (k := 2) rfl rfl (by decide) rfl (fun ls hl => ?_)
        refine lv_iinc (v := (nI j) + 1) (lv' := [(3, .int ((nI j) + 1)), (2, .int ((nI c) + 1)), (0, .ref (g xLN)), (1, .int a)]) hx hb dX2_takeOut_37 hl (k := 3) rfl rfl (by decide) rfl (fun ls hl => ?_)
        refine lv_goto (tgt := 4) hx hb dX2_takeOut_40 (by decide) ?_
        have h9 : lv_has ls 4 [(0, .ref (g xLN)), (1, .int a), (2, .int ((nI c) + 1)), (3, .int ((nI j) + 1))] := lv_sub hl [2, 3, 1, 0] rfl
        rw [nI_1] at h9
        try rw [nI_1] at h9
        subst eJ1
        have hstep : xs_tk a j c J = ((c + 1), (iu J xLR (nI c).toNatClampNeg (J xLR (nI j).toNatClampNeg))) := by simp only [xs_tk, if_neg c19]
        have kk2 := kk
        simp only [xl_tk, hstep] at kk2
        exact ih (j + 1) (c + 1) _ _ _ ls (by omega) (fun t h0 => by have h7 := hh (t + 1) (by omega); simp only [xl_tk, hstep] at h7; exact h7) (fun t h0 => by have h7 := hOK (t + 1) (by omega); rw [show j + (t + 1) = j + 1 + t by omega] at h7; simp only [xl_tk, hstep] at h7; exact h7) hw h9 kk2
set_option maxHeartbeats 4000000 in
set_option maxRecDepth 100000 in
theorem cxf_takeOut (l : Launch) (D : va_G) (cA : Nat → ClassId) {S : nh_N → Option nh_C} {g : nh_N → Nat} {J : (nh_N → Nat → Int32)} {R : nh_N → Nat → Option nh_N}  (hln : xLs S R) (a : Int32) (n : Nat) (hn2 : n ≤ 200) (T : Nat × (nh_N → Nat → Int32)) (hT : xl_tk a n 0 0 J = T) (hH : ∀ t, t ≤ n → xHt n (xl_tk a t 0 0 J).1 (xl_tk a t 0 0 J).2) (hO : ∀ t, t < n → xOt (0 + t) (xl_tk a t 0 0 J).1 (xl_tk a t 0 0 J).2) : im_M l D cA yX2_takeOut vX2_takeOut 0 0 0 0 [.ref (g xLN), .int a] S g J R (im_eq none S g (iu T.2 xLN 1 (nI T.1)) R) := by
  refine nh_of (cc := cX2_takeOut) (maxL := 4) (ret := none) (by decide) rfl (Nat.le_of_ble_eq_true rfl) ?_
  intro p e s m below meth c A ls hx hb hr hml hts hown hlocks hin hK hw hl
  have ht : ∀ w ∈ im_ws, w.before _ s = true := fun w h => hts w (List.mem_cons_of_mem _ h)
  have hl : lv_has ls 4 [(0, .ref (g xLN)), (1, .int a)] := hl
  refine lv_iconst (v := 0) hx hb dX2_takeOut_0 (by decide) ?_
  refine lv_istore_n (lv' := [(2, .int 0), (0, .ref (g xLN)), (1, .int a)]) hx hb dX2_takeOut_1 rfl hl (by decide) rfl (fun ls hl => ?_)
  refine lv_iconst (v := 0) hx hb dX2_takeOut_2 (by decide) ?_
  refine lv_istore_n (lv' := [(3, .int 0), (2, .int 0), (0, .ref (g xLN)), (1, .int a)]) hx hb dX2_takeOut_3 rfl hl (by decide) rfl (fun ls hl => ?_)
  refine xw_tk hx hb hml ht hown hK a hln n hn2 n 0 0 J _ _ ls (by omega) hH hO hw (by rw [nI_0]; exact lv_sub hl [2, 3, 1, 0] rfl) (fun H locs ls hw hl => ?_)
  rw [hT] at hw hl
  have hl : lv_has ls 4 [(0, .ref (g xLN)), (1, .int a), (2, .int (nI T.1)), (3, .int (nI n))] := hl
  refine lv_aload_n hx hb dX2_takeOut_43 rfl (lv_at hl 0 rfl) ?_
  refine lv_iload_n hx hb dX2_takeOut_44 rfl (lv_at hl 2 rfl) ?_
  refine fp2 hx hb ht hown hK hw hln.1 rfl 1 wf2_15 (by decide) rfl rfl rfl rfl dX2_takeOut_45 (fun H locs J1 eJ1 hw => ?_)
  refine nh_vret hx hb hr hlocks hw (Nat.zero_le _) (Nat.zero_le _) dX2_takeOut_48 ?_
  subst eJ1
  exact im_fin rfl rfl
theorem xtk_ok {a : Int32} {n : Nat} : ∀ (t j c : Nat) (J : nh_N → Nat → Int32), J xLN 1 = nI n → c ≤ j → (xl_tk a t j c J).2 xLN 1 = nI n ∧ (xl_tk a t j c J).1 ≤ j + t := by
  intro t
  induction t with
  | zero => intro j c J h hc; exact ⟨h, hc⟩
  | succ t ih =>
    intro j c J h hc
    have hs : (xs_tk a j c J).2 xLN 1 = nI n ∧ (xs_tk a j c J).1 ≤ j + 1 := by
      unfold xs_tk
      split
      · exact ⟨h, by show c ≤ j + 1; omega⟩
      · exact ⟨by simp [iu_e, xLN, xLR]; exact h, by show c + 1 ≤ j + 1; omega⟩
    have h2 := ih (j + 1) (xs_tk a j c J).1 (xs_tk a j c J).2 hs.1 hs.2
    exact ⟨h2.1, by have := h2.2; show (xl_tk a t (j + 1) (xs_tk a j c J).1 (xs_tk a j c J).2).1 ≤ j + (t + 1); omega⟩
def xf_takeOut (J : nh_N → Nat → Int32) (n : Nat) (a : Int32) : nh_N → Nat → Int32 := iu (xl_tk a n 0 0 J).2 xLN 1 (nI (xl_tk a n 0 0 J).1)
theorem cxg_takeOut (l : Launch) (D : va_G) (cA : Nat → ClassId) {S : nh_N → Option nh_C} {g : nh_N → Nat} {J : nh_N → Nat → Int32} {R : nh_N → Nat → Option nh_N} (hln : xLs S R) (a : Int32) (n : Nat) (hn : J xLN 1 = nI n) (hn2 : n ≤ 200) : im_M l D cA yX2_takeOut vX2_takeOut 0 0 0 0 [.ref (g xLN), .int a] S g J R (im_eq none S g (xf_takeOut J n a) R) :=
  cxf_takeOut l D cA hln a n hn2 _ rfl (fun t _ => (xtk_ok t 0 0 J hn (Nat.le_refl _)).1) (fun t _ => (xtk_ok t 0 0 J hn (Nat.le_refl _)).2)
/-- nk sorts, ni inserts, nc pages that are closed; kd: an insert's sort; pl, pn: a page's room for parts, its parts; ow: a part's insert -/
def xSh (S : nh_N → Option nh_C) (R : nh_N → Nat → Option nh_N) (nk ni nc : Nat) (kd pl pn : Nat → Nat) (ow : Nat → Nat → Nat) : Prop :=
  xXs S R ∧ (∀ j, j < 8 → R xKA j = if j < nk then some (xK j) else none) ∧ (∀ k, k < nk → xKs S R k) ∧ (∀ j, j < 200 → R xIA j = if j < ni then some (xN j) else none) ∧ (∀ i, i < ni → xNs S R i (kd i) ∧ kd i < nk) ∧ (∀ j, j < 40 → R xPA j = if j < nc then some (xP j) else none) ∧ (∀ q, q < nc → xPs S R q (pl q) ∧ pn q ≤ pl q ∧ pl q ≤ 200 ∧ ∀ j, j < pn q → R (xPP q) j = some (xQ q j) ∧ S (xQ q j) = some (0, 4) ∧ R (xQ q j) 0 = some (xN (ow q j)) ∧ ow q j < ni) ∧ nk ≤ 8 ∧ ni ≤ 200 ∧ nc ≤ 40
section XSH
variable {S : nh_N → Option nh_C} {R : nh_N → Nat → Option nh_N} {nk ni nc : Nat} {kd pl pn : Nat → Nat} {ow : Nat → Nat → Nat}
theorem xSh.X (h : xSh S R nk ni nc kd pl pn ow) : xXs S R := h.1
theorem xSh.KA (h : xSh S R nk ni nc kd pl pn ow) : ∀ j, j < 8 → R xKA j = if j < nk then some (xK j) else none := h.2.1
theorem xSh.K (h : xSh S R nk ni nc kd pl pn ow) : ∀ k, k < nk → xKs S R k := h.2.2.1
theorem xSh.IA (h : xSh S R nk ni nc kd pl pn ow) : ∀ j, j < 200 → R xIA j = if j < ni then some (xN j) else none := h.2.2.2.1
theorem xSh.N (h : xSh S R nk ni nc kd pl pn ow) : ∀ i, i < ni → xNs S R i (kd i) ∧ kd i < nk := h.2.2.2.2.1
theorem xSh.PA (h : xSh S R nk ni nc kd pl pn ow) : ∀ j, j < 40 → R xPA j = if j < nc then some (xP j) else none := h.2.2.2.2.2.1
theorem xSh.P (h : xSh S R nk ni nc kd pl pn ow) : ∀ q, q < nc → xPs S R q (pl q) ∧ pn q ≤ pl q ∧ pl q ≤ 200 ∧ ∀ j, j < pn q → R (xPP q) j = some (xQ q j) ∧ S (xQ q j) = some (0, 4) ∧ R (xQ q j) 0 = some (xN (ow q j)) ∧ ow q j < ni := h.2.2.2.2.2.2.1
theorem xSh.nk8 (h : xSh S R nk ni nc kd pl pn ow) : nk ≤ 8 := h.2.2.2.2.2.2.2.1
theorem xSh.ni2 (h : xSh S R nk ni nc kd pl pn ow) : ni ≤ 200 := h.2.2.2.2.2.2.2.2.1
theorem xSh.nc4 (h : xSh S R nk ni nc kd pl pn ow) : nc ≤ 40 := h.2.2.2.2.2.2.2.2.2
end XSH
def xf_about (J : (nh_N → Nat → Int32)) (ni : Nat) (a : Int32) (b : Int32) : Int32 := (match xat ni a with | none => (-1) | some i1 => (if b = 0 then (J (xN i1) 3) else (if b = 1 then (J (xN i1) 5) else (if b = 2 then (J (xN i1) 6) else (if b = 3 then (J (xN i1) 4) else (if b = 4 then (J (xN i1) 7) else (-2)))))))
set_option maxHeartbeats 4000000 in
set_option maxRecDepth 100000 in
theorem cxf_about (l : Launch) (D : va_G) (cA : Nat → ClassId) {S : nh_N → Option nh_C} {g : nh_N → Nat} {J : (nh_N → Nat → Int32)} {R : nh_N → Nat → Option nh_N}  {nk ni nc : Nat} {kd pl pn : Nat → Nat} {ow : Nat → Nat → Nat} (hsh : xSh S R nk ni nc kd pl pn ow) (a : Int32) (b : Int32)  : im_M l D cA yX5_about vX5_about 2 43 0 0 [.ref (g xX), .int a, .int b] S g J R (im_eq (some (.int (xf_about J ni a b))) S g J R) := by
  refine nh_of (cc := cX5_about) (maxL := 4) (ret := (some .int)) (by decide) rfl (Nat.le_of_ble_eq_true rfl) ?_
  intro p e s m below meth c A ls hx hb hr hml hts hown hlocks hin hK hw hl
  have ht : ∀ w ∈ im_ws, w.before _ s = true := fun w h => hts w (List.mem_cons_of_mem _ h)
  have hl : lv_has ls 4 [(0, .ref (g xX)), (1, .int a), (2, .int b)] := hl
  have hX := hsh.X
  refine lv_aload_n hx hb dX5_about_0 rfl (lv_at hl 0 rfl) ?_
  refine lv_iload_n hx hb dX5_about_1 rfl (lv_at hl 1 rfl) ?_
  refine kcX5_insertAt (As := [.int a]) (rest := []) wm5_91 (cxf_insertAt l D cA hX a ni hsh.ni2 hsh.IA) hx hb hml ht hown hK hw hX.1 rfl rfl hl.1 rfl (by simp [Value.category]) ⟨by decide, by decide⟩ ⟨by simp, by simp⟩ dX5_about_2 (fun v S1 g1 I1 R1 H locs hp hw => ?_)
  obtain ⟨rfl, h1, h2, h3, h4⟩ := hp
  rw [h1, h2, h3, h4] at hw
  clear h1 h2 h3 h4
  rcases ho2 : xat ni a with _ | i1
  · try rw [ho2]
    show W _ _ _ _ _ _ _ _ _ _ _ _ _ _ _ (F0 m 5 ls [.null])
    refine lv_astore_nN (lv' := [(3, .null), (0, .ref (g xX)), (1, .int a), (2, .int b)]) hx hb dX5_about_5 rfl hl (by decide) rfl (fun ls hl => ?_)
    refine lv_aload_nN hx hb dX5_about_6 rfl (lv_at hl 0 rfl) ?_
    refine lv_ifnonnullN hx hb dX5_about_7 ?_
    refine lv_iconst (v := (-1)) hx hb dX5_about_10 (by decide) ?_
    refine nh_iret hx hb hr rfl hlocks hw (Nat.zero_le _) (Nat.zero_le _) dX5_about_11 ?_
    simp only [xf_about, ho2]
    exact im_fin rfl rfl
  · try rw [ho2]
    obtain ⟨ei1, hi1⟩ := xat_some ho2 (Nat.lt_of_le_of_lt hsh.ni2 (by decide))
    have hn1 := hsh.N i1 hi1
    show W _ _ _ _ _ _ _ _ _ _ _ _ _ _ _ (F0 m 5 ls [.ref (g (xN i1))])
    refine lv_astore_n (lv' := [(3, .ref (g (xN i1))), (0, .ref (g xX)), (1, .int a), (2, .int b)]) hx hb dX5_about_5 rfl hl (by decide) rfl (fun ls hl => ?_)
    refine lv_aload_n hx hb dX5_about_6 rfl (lv_at hl 0 rfl) ?_
    refine lv_ifnonnull (tgt := 12) hx hb dX5_about_7 (by decide) ?_
    refine lv_iload_n hx hb dX5_about_12 rfl (lv_at hl 3 rfl) ?_
    by_cases c13_0 : b = 0
    · refine lv_tableIn (tgt := 48) hx hb dX5_about_13 (by rw [c13_0]; decide) (by rw [c13_0]; decide) (by rw [c13_0]; rfl) (by decide) ?_
      refine lv_aload_n hx hb dX5_about_48 rfl (lv_at hl 0 rfl) ?_
      refine fg0 (v := .int (J (xN i1) 3)) hx hb ht hown hK hw hn1.1.1 rfl 3 wf5_102 (by decide) (nh_vi rfl) dX5_about_49 ?_
      refine nh_iret hx hb hr rfl hlocks hw (Nat.zero_le _) (Nat.zero_le _) dX5_about_52 ?_
      simp only [xf_about, ho2, if_pos c13_0]
      exact im_fin rfl rfl
    by_cases c13_1 : b = 1
    · refine lv_tableIn (tgt := 53) hx hb dX5_about_13 (by rw [c13_1]; decide) (by rw [c13_1]; decide) (by rw [c13_1]; rfl) (by decide) ?_
      refine lv_aload_n hx hb dX5_about_53 rfl (lv_at hl 0 rfl) ?_
      refine fg0 (v := .int (J (xN i1) 5)) hx hb ht hown hK hw hn1.1.1 rfl 5 wf5_136 (by decide) (nh_vi rfl) dX5_about_54 ?_
      refine nh_iret hx hb hr rfl hlocks hw (Nat.zero_le _) (Nat.zero_le _) dX5_about_57 ?_
      simp only [xf_about, ho2, if_neg c13_0, if_pos c13_1]
      exact im_fin rfl rfl
    by_cases c13_2 : b = 2
    · refine lv_tableIn (tgt := 58) hx hb dX5_about_13 (by rw [c13_2]; decide) (by rw [c13_2]; decide) (by rw [c13_2]; rfl) (by decide) ?_
      refine lv_aload_n hx hb dX5_about_58 rfl (lv_at hl 0 rfl) ?_
      refine fg0 (v := .int (J (xN i1) 6)) hx hb ht hown hK hw hn1.1.1 rfl 6 wf5_139 (by decide) (nh_vi rfl) dX5_about_59 ?_
      refine nh_iret hx hb hr rfl hlocks hw (Nat.zero_le _) (Nat.zero_le _) dX5_about_62 ?_
      simp only [xf_about, ho2, if_neg c13_0, if_neg c13_1, if_pos c13_2]
      exact im_fin rfl rfl
    by_cases c13_3 : b = 3
    · refine lv_tableIn (tgt := 63) hx hb dX5_about_13 (by rw [c13_3]; decide) (by rw [c13_3]; decide) (by rw [c13_3]; rfl) (by decide) ?_
      refine lv_aload_n hx hb dX5_about_63 rfl (lv_at hl 0 rfl) ?_
      refine fg0 (v := .int (J (xN i1) 4)) hx hb ht hown hK hw hn1.1.1 rfl 4 wf5_129 (by decide) (nh_vi rfl) dX5_about_64 ?_
      refine nh_iret hx hb hr rfl hlocks hw (Nat.zero_le _) (Nat.zero_le _) dX5_about_67 ?_
      simp only [xf_about, ho2, if_neg c13_0, if_neg c13_1, if_neg c13_2, if_pos c13_3]
      exact im_fin rfl rfl
    by_cases c13_4 : b = 4
    · refine lv_tableIn (tgt := 68) hx hb dX5_about_13 (by rw [c13_4]; decide) (by rw [c13_4]; decide) (by rw [c13_4]; rfl) (by decide) ?_
      refine lv_aload_n hx hb dX5_about_68 rfl (lv_at hl 0 rfl) ?_
      refine fg0 (v := .int (J (xN i1) 7)) hx hb ht hown hK hw hn1.1.1 rfl 7 wf5_95 (by decide) (nh_vi rfl) dX5_about_69 ?_
      refine nh_iret hx hb hr rfl hlocks hw (Nat.zero_le _) (Nat.zero_le _) dX5_about_72 ?_
      simp only [xf_about, ho2, if_neg c13_0, if_neg c13_1, if_neg c13_2, if_neg c13_3, if_pos c13_4]
      exact im_fin rfl rfl
    · refine lv_tableOut (tgt := 73) hx hb dX5_about_13 (by have h0 := lv_neT c13_0 (show ((0 : Int32)).toInt = 0 from rfl); have h1 := lv_neT c13_1 (show ((1 : Int32)).toInt = 1 from rfl); have h2 := lv_neT c13_2 (show ((2 : Int32)).toInt = 2 from rfl); have h3 := lv_neT c13_3 (show ((3 : Int32)).toInt = 3 from rfl); have h4 := lv_neT c13_4 (show ((4 : Int32)).toInt = 4 from rfl); omega) (by decide) ?_
      refine lv_bipush (v := (-2)) hx hb dX5_about_73 (by decide) ?_
      refine nh_iret hx hb hr rfl hlocks hw (Nat.zero_le _) (Nat.zero_le _) dX5_about_75 ?_
      simp only [xf_about, ho2, if_neg c13_0, if_neg c13_1, if_neg c13_2, if_neg c13_3, if_neg c13_4]
      exact im_fin rfl rfl
def xf_held (J : (nh_N → Nat → Int32))  (a : Int32) : Int32 := (xf_indexAt J a)
set_option maxHeartbeats 4000000 in
set_option maxRecDepth 100000 in
theorem cxf_held (l : Launch) (D : va_G) (cA : Nat → ClassId) {S : nh_N → Option nh_C} {g : nh_N → Nat} {J : (nh_N → Nat → Int32)} {R : nh_N → Nat → Option nh_N}  {nk ni nc : Nat} {kd pl pn : Nat → Nat} {ow : Nat → Nat → Nat} (hsh : xSh S R nk ni nc kd pl pn ow) (a : Int32) (ln : Nat) (hln : J xLN 1 = nI ln) (hl2 : ln ≤ 200) : im_M l D cA yX5_held vX5_held 2 43 0 0 [.ref (g xX), .int a] S g J R (im_eq (some (.int (xf_held J a))) S g J R) := by
  refine nh_of (cc := cX5_held) (maxL := 2) (ret := (some .int)) (by decide) rfl (Nat.le_of_ble_eq_true rfl) ?_
  intro p e s m below meth c A ls hx hb hr hml hts hown hlocks hin hK hw hl
  have ht : ∀ w ∈ im_ws, w.before _ s = true := fun w h => hts w (List.mem_cons_of_mem _ h)
  have hl : lv_has ls 2 [(0, .ref (g xX)), (1, .int a)] := hl
  have hX := hsh.X
  refine lv_aload_n hx hb dX5_held_0 rfl (lv_at hl 0 rfl) ?_
  refine fg5 hx hb ht hown hK hw hX.1 rfl 4 wf5_30 (by decide) (nh_vr rfl hX.2.2.2.2.2.2.2.1) dX5_held_1 ?_
  refine lv_iload_n hx hb dX5_held_4 rfl (lv_at hl 1 rfl) ?_
  refine kcX2_indexAt (As := [.int a]) (rest := []) wm5_142 (cxf_indexAt l D cA hX.2.2.2.2.2.2.2.2 a ln hln hl2) hx hb hml ht hown hK hw hX.2.2.2.2.2.2.2.2.1 rfl rfl hl.1 rfl (by simp [Value.category]) ⟨by decide, by decide⟩ ⟨by simp, by simp⟩ dX5_held_5 (fun v S1 g1 I1 R1 H locs hp hw => ?_)
  obtain ⟨rfl, h1, h2, h3, h4⟩ := hp
  rw [h1, h2, h3, h4] at hw
  clear h1 h2 h3 h4
  show W _ _ _ _ _ _ _ _ _ _ _ _ _ _ _ (F0 m 8 ls [.int (xf_indexAt J a)])
  refine nh_iret hx hb hr rfl hlocks hw (Nat.zero_le _) (Nat.zero_le _) dX5_held_8 ?_
  exact im_fin rfl rfl
def xf_count (J : (nh_N → Nat → Int32))  (a : Int32) : Int32 := (if a = 0 then (J xX 5) else (if a = 1 then (J xX 6) else (if a = 2 then (J xX 7) else (if a = 3 then (J xX 8) else (if a = 4 then (J xLN 1) else (-2))))))
set_option maxHeartbeats 4000000 in
set_option maxRecDepth 100000 in
theorem cxf_count (l : Launch) (D : va_G) (cA : Nat → ClassId) {S : nh_N → Option nh_C} {g : nh_N → Nat} {J : (nh_N → Nat → Int32)} {R : nh_N → Nat → Option nh_N}  {nk ni nc : Nat} {kd pl pn : Nat → Nat} {ow : Nat → Nat → Nat} (hsh : xSh S R nk ni nc kd pl pn ow) (a : Int32)  : im_M l D cA yX5_count vX5_count 0 0 0 0 [.ref (g xX), .int a] S g J R (im_eq (some (.int (xf_count J a))) S g J R) := by
  refine nh_of (cc := cX5_count) (maxL := 2) (ret := (some .int)) (by decide) rfl (Nat.le_of_ble_eq_true rfl) ?_
  intro p e s m below meth c A ls hx hb hr hml hts hown hlocks hin hK hw hl
  have ht : ∀ w ∈ im_ws, w.before _ s = true := fun w h => hts w (List.mem_cons_of_mem _ h)
  have hl : lv_has ls 2 [(0, .ref (g xX)), (1, .int a)] := hl
  have hX := hsh.X
  refine lv_iload_n hx hb dX5_count_0 rfl (lv_at hl 1 rfl) ?_
  by_cases c1_0 : a = 0
  · refine lv_tableIn (tgt := 36) hx hb dX5_count_1 (by rw [c1_0]; decide) (by rw [c1_0]; decide) (by rw [c1_0]; rfl) (by decide) ?_
    refine lv_aload_n hx hb dX5_count_36 rfl (lv_at hl 0 rfl) ?_
    refine fg5 (v := .int (J xX 5)) hx hb ht hown hK hw hX.1 rfl 5 wf5_51 (by decide) (nh_vi rfl) dX5_count_37 ?_
    refine nh_iret hx hb hr rfl hlocks hw (Nat.zero_le _) (Nat.zero_le _) dX5_count_40 ?_
    simp only [xf_count, if_pos c1_0]
    exact im_fin rfl rfl
  by_cases c1_1 : a = 1
  · refine lv_tableIn (tgt := 41) hx hb dX5_count_1 (by rw [c1_1]; decide) (by rw [c1_1]; decide) (by rw [c1_1]; rfl) (by decide) ?_
    refine lv_aload_n hx hb dX5_count_41 rfl (lv_at hl 0 rfl) ?_
    refine fg5 (v := .int (J xX 6)) hx hb ht hown hK hw hX.1 rfl 6 wf5_68 (by decide) (nh_vi rfl) dX5_count_42 ?_
    refine nh_iret hx hb hr rfl hlocks hw (Nat.zero_le _) (Nat.zero_le _) dX5_count_45 ?_
    simp only [xf_count, if_neg c1_0, if_pos c1_1]
    exact im_fin rfl rfl
  by_cases c1_2 : a = 2
  · refine lv_tableIn (tgt := 46) hx hb dX5_count_1 (by rw [c1_2]; decide) (by rw [c1_2]; decide) (by rw [c1_2]; rfl) (by decide) ?_
    refine lv_aload_n hx hb dX5_count_46 rfl (lv_at hl 0 rfl) ?_
    refine fg5 (v := .int (J xX 7)) hx hb ht hown hK hw hX.1 rfl 7 wf5_74 (by decide) (nh_vi rfl) dX5_count_47 ?_
    refine nh_iret hx hb hr rfl hlocks hw (Nat.zero_le _) (Nat.zero_le _) dX5_count_50 ?_
    simp only [xf_count, if_neg c1_0, if_neg c1_1, if_pos c1_2]
    exact im_fin rfl rfl
  by_cases c1_3 : a = 3
  · refine lv_tableIn (tgt := 51) hx hb dX5_count_1 (by rw [c1_3]; decide) (by rw [c1_3]; decide) (by rw [c1_3]; rfl) (by decide) ?_
    refine lv_aload_n hx hb dX5_count_51 rfl (lv_at hl 0 rfl) ?_
    refine fg5 (v := .int (J xX 8)) hx hb ht hown hK hw hX.1 rfl 8 wf5_81 (by decide) (nh_vi rfl) dX5_count_52 ?_
    refine nh_iret hx hb hr rfl hlocks hw (Nat.zero_le _) (Nat.zero_le _) dX5_count_55 ?_
    simp only [xf_count, if_neg c1_0, if_neg c1_1, if_neg c1_2, if_pos c1_3]
    exact im_fin rfl rfl
  by_cases c1_4 : a = 4
  · refine lv_tableIn (tgt := 56) hx hb dX5_count_1 (by rw [c1_4]; decide) (by rw [c1_4]; decide) (by rw [c1_4]; rfl) (by decide) ?_
    refine lv_aload_n hx hb dX5_count_56 rfl (lv_at hl 0 rfl) ?_
    refine fg5 hx hb ht hown hK hw hX.1 rfl 4 wf5_30 (by decide) (nh_vr rfl hX.2.2.2.2.2.2.2.1) dX5_count_57 ?_
    refine fg2 (v := .int (J xLN 1)) hx hb ht hown hK hw hX.2.2.2.2.2.2.2.2.1 rfl 1 wf5_88 (by decide) (nh_vi rfl) dX5_count_60 ?_
    refine nh_iret hx hb hr rfl hlocks hw (Nat.zero_le _) (Nat.zero_le _) dX5_count_63 ?_
    simp only [xf_count, if_neg c1_0, if_neg c1_1, if_neg c1_2, if_neg c1_3, if_pos c1_4]
    exact im_fin rfl rfl
  · refine lv_tableOut (tgt := 64) hx hb dX5_count_1 (by have h0 := lv_neT c1_0 (show ((0 : Int32)).toInt = 0 from rfl); have h1 := lv_neT c1_1 (show ((1 : Int32)).toInt = 1 from rfl); have h2 := lv_neT c1_2 (show ((2 : Int32)).toInt = 2 from rfl); have h3 := lv_neT c1_3 (show ((3 : Int32)).toInt = 3 from rfl); have h4 := lv_neT c1_4 (show ((4 : Int32)).toInt = 4 from rfl); omega) (by decide) ?_
    refine lv_bipush (v := (-2)) hx hb dX5_count_64 (by decide) ?_
    refine nh_iret hx hb hr rfl hlocks hw (Nat.zero_le _) (Nat.zero_le _) dX5_count_66 ?_
    simp only [xf_count, if_neg c1_0, if_neg c1_1, if_neg c1_2, if_neg c1_3, if_neg c1_4]
    exact im_fin rfl rfl
theorem xi_v {J : nh_N → Nat → Int32} {a : Int32} (h : ¬ xf_isPage J a = 0) : vp_in a 40 := xat_in (N := 40) (d := 39) h (by decide)
theorem xi_cl {J : nh_N → Nat → Int32} {a : Int32} (h : ¬ xf_isPage J a = 0) : a = nI a.toNatClampNeg := by
  obtain ⟨j, hj, rfl⟩ := vp_in_of (xi_v h) (by decide)
  rw [nI_clamp (by omega)]
theorem xi_40 {J : nh_N → Nat → Int32} {a : Int32} (h : ¬ xf_isPage J a = 0) : a.toNatClampNeg < 40 := by
  obtain ⟨j, hj, rfl⟩ := vp_in_of (xi_v h) (by decide)
  rw [nI_clamp (by omega)]
  exact hj
def xf_seen (J : (nh_N → Nat → Int32)) (nk : Nat) (a : Int32) (b : Int32) (d : Int32) : Int32 := (match xat nk a with | none => 0 | some j1 => (if (xf_isPage J b) = 0 then 0 else (if d = 0 then (xf_topMark J j1 b.toNatClampNeg b) else (if d = 1 then (xf_firstMark J j1 b.toNatClampNeg b) else (if d = 2 then (xf_lastMark J j1 b.toNatClampNeg b) else 0)))))
set_option maxHeartbeats 4000000 in
set_option maxRecDepth 100000 in
theorem cxf_seen (l : Launch) (D : va_G) (cA : Nat → ClassId) {S : nh_N → Option nh_C} {g : nh_N → Nat} {J : (nh_N → Nat → Int32)} {R : nh_N → Nat → Option nh_N}  {nk ni nc : Nat} {kd pl pn : Nat → Nat} {ow : Nat → Nat → Nat} (hsh : xSh S R nk ni nc kd pl pn ow) (a : Int32) (b : Int32) (d : Int32)  : im_M l D cA yX5_seen vX5_seen 2 44 0 0 [.ref (g xX), .int a, .int b, .int d] S g J R (im_eq (some (.int (xf_seen J nk a b d))) S g J R) := by
  refine nh_of (cc := cX5_seen) (maxL := 5) (ret := (some .int)) (by decide) rfl (Nat.le_of_ble_eq_true rfl) ?_
  intro p e s m below meth c A ls hx hb hr hml hts hown hlocks hin hK hw hl
  have ht : ∀ w ∈ im_ws, w.before _ s = true := fun w h => hts w (List.mem_cons_of_mem _ h)
  have hl : lv_has ls 5 [(0, .ref (g xX)), (1, .int a), (2, .int b), (3, .int d)] := hl
  have hX := hsh.X
  refine lv_aload_n hx hb dX5_seen_0 rfl (lv_at hl 0 rfl) ?_
  refine lv_iload_n hx hb dX5_seen_1 rfl (lv_at hl 1 rfl) ?_
  refine kcX5_kindAt (As := [.int a]) (rest := []) wm5_57 (cxf_kindAt l D cA hX a nk hsh.nk8 hsh.KA) hx hb hml ht hown hK hw hX.1 rfl rfl hl.1 rfl (by simp [Value.category]) ⟨by decide, by decide⟩ ⟨by simp, by simp⟩ dX5_seen_2 (fun v S1 g1 I1 R1 H locs hp hw => ?_)
  obtain ⟨rfl, h1, h2, h3, h4⟩ := hp
  rw [h1, h2, h3, h4] at hw
  clear h1 h2 h3 h4
  rcases ho2 : xat nk a with _ | j1
  · try rw [ho2]
    show W _ _ _ _ _ _ _ _ _ _ _ _ _ _ _ (F0 m 5 ls [.null])
    refine lv_astoreN (lv' := [(4, .null), (0, .ref (g xX)), (1, .int a), (2, .int b), (3, .int d)]) hx hb dX5_seen_5 hl (by decide) rfl (fun ls hl => ?_)
    refine lv_aloadN hx hb dX5_seen_7 (lv_at hl 0 rfl) ?_
    refine lv_ifnullN (tgt := 19) hx hb dX5_seen_9 (by decide) ?_
    refine lv_iconst (v := 0) hx hb dX5_seen_19 (by decide) ?_
    refine nh_iret hx hb hr rfl hlocks hw (Nat.zero_le _) (Nat.zero_le _) dX5_seen_20 ?_
    simp only [xf_seen, ho2]
    exact im_fin rfl rfl
  · try rw [ho2]
    obtain ⟨ej1, hj1⟩ := xat_some ho2 (Nat.lt_of_le_of_lt hsh.nk8 (by decide))
    have hk1 := hsh.K j1 hj1
    show W _ _ _ _ _ _ _ _ _ _ _ _ _ _ _ (F0 m 5 ls [.ref (g (xK j1))])
    refine lv_astore (lv' := [(4, .ref (g (xK j1))), (0, .ref (g xX)), (1, .int a), (2, .int b), (3, .int d)]) hx hb dX5_seen_5 hl (by decide) rfl (fun ls hl => ?_)
    refine lv_aload hx hb dX5_seen_7 (lv_at hl 0 rfl) ?_
    refine lv_ifnull hx hb dX5_seen_9 ?_
    refine lv_iload_n hx hb dX5_seen_12 rfl (lv_at hl 3 rfl) ?_
    refine kcX5_isPage (As := [.int b]) (rest := []) wm5_61 (cxf_isPage l D cA b) hx hb hml ht hown hK hw rfl hl.1 rfl (by simp [Value.category]) ⟨by decide, by decide⟩ ⟨by simp, by simp⟩ dX5_seen_13 (fun v S1 g1 I1 R1 H locs hp hw => ?_)
    obtain ⟨rfl, h1, h2, h3, h4⟩ := hp
    rw [h1, h2, h3, h4] at hw
    clear h1 h2 h3 h4
    show W _ _ _ _ _ _ _ _ _ _ _ _ _ _ _ (F0 m 16 ls [.int (xf_isPage J b)])
    refine lv_if_ne (tgt := 21) hx hb dX5_seen_16 (by decide) (fun c16 => ?_) (fun c16 => ?_)
    · refine lv_iload_n hx hb dX5_seen_21 rfl (lv_at hl 4 rfl) ?_
      by_cases c22_0 : d = 0
      · refine lv_tableIn (tgt := 48) hx hb dX5_seen_22 (by rw [c22_0]; decide) (by rw [c22_0]; decide) (by rw [c22_0]; rfl) (by decide) ?_
        refine lv_aload hx hb dX5_seen_48 (lv_at hl 0 rfl) ?_
        refine lv_iload_n hx hb dX5_seen_50 rfl (lv_at hl 3 rfl) ?_
        refine kcX1_topMark (As := [.int b]) (rest := []) wm5_151 (cxf_topMark l D cA j1 hk1 b b.toNatClampNeg (xi_cl c16) (Nat.le_of_lt (xi_40 c16))) hx hb hml ht hown hK hw hk1.1 rfl rfl hl.1 rfl (by simp [Value.category]) ⟨by decide, by decide⟩ ⟨by simp, by simp⟩ dX5_seen_51 (fun v S1 g1 I1 R1 H locs hp hw => ?_)
        obtain ⟨rfl, h1, h2, h3, h4⟩ := hp
        rw [h1, h2, h3, h4] at hw
        clear h1 h2 h3 h4
        show W _ _ _ _ _ _ _ _ _ _ _ _ _ _ _ (F0 m 54 ls [.int (xf_topMark J j1 b.toNatClampNeg b)])
        refine nh_iret hx hb hr rfl hlocks hw (Nat.zero_le _) (Nat.zero_le _) dX5_seen_54 ?_
        simp only [xf_seen, ho2, if_neg c16, if_pos c22_0]
        exact im_fin rfl rfl
      by_cases c22_1 : d = 1
      · refine lv_tableIn (tgt := 55) hx hb dX5_seen_22 (by rw [c22_1]; decide) (by rw [c22_1]; decide) (by rw [c22_1]; rfl) (by decide) ?_
        refine lv_aload hx hb dX5_seen_55 (lv_at hl 0 rfl) ?_
        refine lv_iload_n hx hb dX5_seen_57 rfl (lv_at hl 3 rfl) ?_
        refine kcX1_firstMark (As := [.int b]) (rest := []) wm5_154 (cxf_firstMark l D cA j1 b.toNatClampNeg hk1 b (xi_cl c16) (xi_40 c16)) hx hb hml ht hown hK hw hk1.1 rfl rfl hl.1 rfl (by simp [Value.category]) ⟨by decide, by decide⟩ ⟨by simp, by simp⟩ dX5_seen_58 (fun v S1 g1 I1 R1 H locs hp hw => ?_)
        obtain ⟨rfl, h1, h2, h3, h4⟩ := hp
        rw [h1, h2, h3, h4] at hw
        clear h1 h2 h3 h4
        show W _ _ _ _ _ _ _ _ _ _ _ _ _ _ _ (F0 m 61 ls [.int (xf_firstMark J j1 b.toNatClampNeg b)])
        refine nh_iret hx hb hr rfl hlocks hw (Nat.zero_le _) (Nat.zero_le _) dX5_seen_61 ?_
        simp only [xf_seen, ho2, if_neg c16, if_neg c22_0, if_pos c22_1]
        exact im_fin rfl rfl
      by_cases c22_2 : d = 2
      · refine lv_tableIn (tgt := 62) hx hb dX5_seen_22 (by rw [c22_2]; decide) (by rw [c22_2]; decide) (by rw [c22_2]; rfl) (by decide) ?_
        refine lv_aload hx hb dX5_seen_62 (lv_at hl 0 rfl) ?_
        refine lv_iload_n hx hb dX5_seen_64 rfl (lv_at hl 3 rfl) ?_
        refine kcX1_lastMark (As := [.int b]) (rest := []) wm5_157 (cxf_lastMark l D cA j1 b.toNatClampNeg hk1 b (xi_cl c16) (xi_40 c16)) hx hb hml ht hown hK hw hk1.1 rfl rfl hl.1 rfl (by simp [Value.category]) ⟨by decide, by decide⟩ ⟨by simp, by simp⟩ dX5_seen_65 (fun v S1 g1 I1 R1 H locs hp hw => ?_)
        obtain ⟨rfl, h1, h2, h3, h4⟩ := hp
        rw [h1, h2, h3, h4] at hw
        clear h1 h2 h3 h4
        show W _ _ _ _ _ _ _ _ _ _ _ _ _ _ _ (F0 m 68 ls [.int (xf_lastMark J j1 b.toNatClampNeg b)])
        refine nh_iret hx hb hr rfl hlocks hw (Nat.zero_le _) (Nat.zero_le _) dX5_seen_68 ?_
        simp only [xf_seen, ho2, if_neg c16, if_neg c22_0, if_neg c22_1, if_pos c22_2]
        exact im_fin rfl rfl
      · refine lv_tableOut (tgt := 69) hx hb dX5_seen_22 (by have h0 := lv_neT c22_0 (show ((0 : Int32)).toInt = 0 from rfl); have h1 := lv_neT c22_1 (show ((1 : Int32)).toInt = 1 from rfl); have h2 := lv_neT c22_2 (show ((2 : Int32)).toInt = 2 from rfl); omega) (by decide) ?_
        refine lv_iconst (v := 0) hx hb dX5_seen_69 (by decide) ?_
        refine nh_iret hx hb hr rfl hlocks hw (Nat.zero_le _) (Nat.zero_le _) dX5_seen_70 ?_
        simp only [xf_seen, ho2, if_neg c16, if_neg c22_0, if_neg c22_1, if_neg c22_2]
        exact im_fin rfl rfl
    · refine lv_iconst (v := 0) hx hb dX5_seen_19 (by decide) ?_
      refine nh_iret hx hb hr rfl hlocks hw (Nat.zero_le _) (Nat.zero_le _) dX5_seen_20 ?_
      simp only [xf_seen, ho2, if_pos c16]
      exact im_fin rfl rfl
def xf_placed (J : (nh_N → Nat → Int32)) (nc : Nat) (pn : Nat → Nat) (ow : Nat → Nat → Nat) (a : Int32) (b : Int32) (d : Int32) : Int32 := (match xat nc a with | none => (-1) | some q1 => (match xat (pn q1) b with | none => (-1) | some j2 => (if d = 0 then (J (xN (ow q1 j2)) 0) else (if d = 1 then (J (xQ q1 j2) 1) else (if d = 2 then (J (xN (ow q1 j2)) 4) else (if d = 3 then (if (J (xQ q1 j2) 2) = 0 then 0 else 1) else (-1)))))))
set_option maxHeartbeats 4000000 in
set_option maxRecDepth 100000 in
theorem cxf_placed (l : Launch) (D : va_G) (cA : Nat → ClassId) {S : nh_N → Option nh_C} {g : nh_N → Nat} {J : (nh_N → Nat → Int32)} {R : nh_N → Nat → Option nh_N}  {nk ni nc : Nat} {kd pl pn : Nat → Nat} {ow : Nat → Nat → Nat} (hsh : xSh S R nk ni nc kd pl pn ow) (a : Int32) (b : Int32) (d : Int32) (hpn : ∀ q, q < nc → J (xP q) 2 = nI (pn q)) : im_M l D cA yX5_placed vX5_placed 3 63 0 0 [.ref (g xX), .int a, .int b, .int d] S g J R (im_eq (some (.int (xf_placed J nc pn ow a b d))) S g J R) := by
  refine nh_of (cc := cX5_placed) (maxL := 6) (ret := (some .int)) (by decide) rfl (Nat.le_of_ble_eq_true rfl) ?_
  intro p e s m below meth c A ls hx hb hr hml hts hown hlocks hin hK hw hl
  have ht : ∀ w ∈ im_ws, w.before _ s = true := fun w h => hts w (List.mem_cons_of_mem _ h)
  have hl : lv_has ls 6 [(0, .ref (g xX)), (1, .int a), (2, .int b), (3, .int d)] := hl
  have hX := hsh.X
  refine lv_aload_n hx hb dX5_placed_0 rfl (lv_at hl 0 rfl) ?_
  refine lv_iload_n hx hb dX5_placed_1 rfl (lv_at hl 1 rfl) ?_
  refine kcX5_closedPageAt (As := [.int a]) (rest := []) wm5_109 (cxf_closedPageAt l D cA hX a nc hsh.nc4 hsh.PA) hx hb hml ht hown hK hw hX.1 rfl rfl hl.1 rfl (by simp [Value.category]) ⟨by decide, by decide⟩ ⟨by simp, by simp⟩ dX5_placed_2 (fun v S1 g1 I1 R1 H locs hp hw => ?_)
  obtain ⟨rfl, h1, h2, h3, h4⟩ := hp
  rw [h1, h2, h3, h4] at hw
  clear h1 h2 h3 h4
  rcases ho2 : xat nc a with _ | q1
  · try rw [ho2]
    show W _ _ _ _ _ _ _ _ _ _ _ _ _ _ _ (F0 m 5 ls [.null])
    refine lv_astoreN (lv' := [(4, .null), (0, .ref (g xX)), (1, .int a), (2, .int b), (3, .int d)]) hx hb dX5_placed_5 hl (by decide) rfl (fun ls hl => ?_)
    refine lv_aloadN hx hb dX5_placed_7 (lv_at hl 0 rfl) ?_
    refine lv_ifnonnullN hx hb dX5_placed_9 ?_
    refine lv_iconst (v := (-1)) hx hb dX5_placed_12 (by decide) ?_
    refine nh_iret hx hb hr rfl hlocks hw (Nat.zero_le _) (Nat.zero_le _) dX5_placed_13 ?_
    simp only [xf_placed, ho2]
    exact im_fin rfl rfl
  · try rw [ho2]
    obtain ⟨eq1, hq1⟩ := xat_some ho2 (Nat.lt_of_le_of_lt hsh.nc4 (by decide))
    have hp1 := hsh.P q1 hq1
    show W _ _ _ _ _ _ _ _ _ _ _ _ _ _ _ (F0 m 5 ls [.ref (g (xP q1))])
    refine lv_astore (lv' := [(4, .ref (g (xP q1))), (0, .ref (g xX)), (1, .int a), (2, .int b), (3, .int d)]) hx hb dX5_placed_5 hl (by decide) rfl (fun ls hl => ?_)
    refine lv_aload hx hb dX5_placed_7 (lv_at hl 0 rfl) ?_
    refine lv_ifnonnull (tgt := 14) hx hb dX5_placed_9 (by decide) ?_
    refine lv_aload hx hb dX5_placed_14 (lv_at hl 0 rfl) ?_
    refine lv_iload_n hx hb dX5_placed_16 rfl (lv_at hl 3 rfl) ?_
    refine kcX3_partAt (As := [.int b]) (rest := []) wm5_113 (cxf_partAt l D cA q1 (pl q1) hp1.1 b (pn q1) (hpn q1 hq1) hp1.2.1 hp1.2.2.1 (fun j hj => (hp1.2.2.2 j hj).1)) hx hb hml ht hown hK hw hp1.1.1 rfl rfl hl.1 rfl (by simp [Value.category]) ⟨by decide, by decide⟩ ⟨by simp, by simp⟩ dX5_placed_17 (fun v S1 g1 I1 R1 H locs hp hw => ?_)
    obtain ⟨rfl, h1, h2, h3, h4⟩ := hp
    rw [h1, h2, h3, h4] at hw
    clear h1 h2 h3 h4
    rcases ho17 : xat (pn q1) b with _ | j2
    · try rw [ho17]
      show W _ _ _ _ _ _ _ _ _ _ _ _ _ _ _ (F0 m 20 ls [.null])
      refine lv_astoreN (lv' := [(5, .null), (4, .ref (g (xP q1))), (0, .ref (g xX)), (1, .int a), (2, .int b), (3, .int d)]) hx hb dX5_placed_20 hl (by decide) rfl (fun ls hl => ?_)
      refine lv_aloadN hx hb dX5_placed_22 (lv_at hl 0 rfl) ?_
      refine lv_ifnonnullN hx hb dX5_placed_24 ?_
      refine lv_iconst (v := (-1)) hx hb dX5_placed_27 (by decide) ?_
      refine nh_iret hx hb hr rfl hlocks hw (Nat.zero_le _) (Nat.zero_le _) dX5_placed_28 ?_
      simp only [xf_placed, ho2, ho17]
      exact im_fin rfl rfl
    · try rw [ho17]
      obtain ⟨ej2, hj2⟩ := xat_some ho17 (by have h1 := hp1.2.1; have h2 := hp1.2.2.1; omega)
      have hpj := hp1.2.2.2 j2 hj2
      show W _ _ _ _ _ _ _ _ _ _ _ _ _ _ _ (F0 m 20 ls [.ref (g (xQ q1 j2))])
      refine lv_astore (lv' := [(5, .ref (g (xQ q1 j2))), (4, .ref (g (xP q1))), (0, .ref (g xX)), (1, .int a), (2, .int b), (3, .int d)]) hx hb dX5_placed_20 hl (by decide) rfl (fun ls hl => ?_)
      refine lv_aload hx hb dX5_placed_22 (lv_at hl 0 rfl) ?_
      refine lv_ifnonnull (tgt := 29) hx hb dX5_placed_24 (by decide) ?_
      refine lv_iload_n hx hb dX5_placed_29 rfl (lv_at hl 5 rfl) ?_
      by_cases c30_0 : d = 0
      · refine lv_tableIn (tgt := 60) hx hb dX5_placed_30 (by rw [c30_0]; decide) (by rw [c30_0]; decide) (by rw [c30_0]; rfl) (by decide) ?_
        refine lv_aload hx hb dX5_placed_60 (lv_at hl 0 rfl) ?_
        refine fg4 hx hb ht hown hK hw hpj.2.1 rfl 0 wf5_117 (by decide) (nh_vr rfl hpj.2.2.1) dX5_placed_62 ?_
        refine fg0 (v := .int (J (xN (ow q1 j2)) 0)) hx hb ht hown hK hw (hsh.N _ hpj.2.2.2).1.1 rfl 0 wf5_123 (by decide) (nh_vi rfl) dX5_placed_65 ?_
        refine nh_iret hx hb hr rfl hlocks hw (Nat.zero_le _) (Nat.zero_le _) dX5_placed_68 ?_
        simp only [xf_placed, ho2, ho17, if_pos c30_0]
        exact im_fin rfl rfl
      by_cases c30_1 : d = 1
      · refine lv_tableIn (tgt := 69) hx hb dX5_placed_30 (by rw [c30_1]; decide) (by rw [c30_1]; decide) (by rw [c30_1]; rfl) (by decide) ?_
        refine lv_aload hx hb dX5_placed_69 (lv_at hl 0 rfl) ?_
        refine fg4 (v := .int (J (xQ q1 j2) 1)) hx hb ht hown hK hw hpj.2.1 rfl 1 wf5_126 (by decide) (nh_vi rfl) dX5_placed_71 ?_
        refine nh_iret hx hb hr rfl hlocks hw (Nat.zero_le _) (Nat.zero_le _) dX5_placed_74 ?_
        simp only [xf_placed, ho2, ho17, if_neg c30_0, if_pos c30_1]
        exact im_fin rfl rfl
      by_cases c30_2 : d = 2
      · refine lv_tableIn (tgt := 75) hx hb dX5_placed_30 (by rw [c30_2]; decide) (by rw [c30_2]; decide) (by rw [c30_2]; rfl) (by decide) ?_
        refine lv_aload hx hb dX5_placed_75 (lv_at hl 0 rfl) ?_
        refine fg4 hx hb ht hown hK hw hpj.2.1 rfl 0 wf5_117 (by decide) (nh_vr rfl hpj.2.2.1) dX5_placed_77 ?_
        refine fg0 (v := .int (J (xN (ow q1 j2)) 4)) hx hb ht hown hK hw (hsh.N _ hpj.2.2.2).1.1 rfl 4 wf5_129 (by decide) (nh_vi rfl) dX5_placed_80 ?_
        refine nh_iret hx hb hr rfl hlocks hw (Nat.zero_le _) (Nat.zero_le _) dX5_placed_83 ?_
        simp only [xf_placed, ho2, ho17, if_neg c30_0, if_neg c30_1, if_pos c30_2]
        exact im_fin rfl rfl
      by_cases c30_3 : d = 3
      · refine lv_tableIn (tgt := 84) hx hb dX5_placed_30 (by rw [c30_3]; decide) (by rw [c30_3]; decide) (by rw [c30_3]; rfl) (by decide) ?_
        refine lv_aload hx hb dX5_placed_84 (lv_at hl 0 rfl) ?_
        refine fg4 (v := .int (J (xQ q1 j2) 2)) hx hb ht hown hK hw hpj.2.1 rfl 2 wf5_132 (by decide) (nh_vi rfl) dX5_placed_86 ?_
        refine lv_if_eq (tgt := 96) hx hb dX5_placed_89 (by decide) (fun c89 => ?_) (fun c89 => ?_)
        · refine lv_iconst (v := 0) hx hb dX5_placed_96 (by decide) ?_
          refine nh_iret hx hb hr rfl hlocks hw (Nat.zero_le _) (Nat.zero_le _) dX5_placed_97 ?_
          simp only [xf_placed, ho2, ho17, if_neg c30_0, if_neg c30_1, if_neg c30_2, if_pos c30_3, if_pos c89]
          exact im_fin rfl rfl
        · refine lv_iconst (v := 1) hx hb dX5_placed_92 (by decide) ?_
          refine lv_goto (tgt := 97) hx hb dX5_placed_93 (by decide) ?_
          refine nh_iret hx hb hr rfl hlocks hw (Nat.zero_le _) (Nat.zero_le _) dX5_placed_97 ?_
          simp only [xf_placed, ho2, ho17, if_neg c30_0, if_neg c30_1, if_neg c30_2, if_pos c30_3, if_neg c89]
          exact im_fin rfl rfl
      · refine lv_tableOut (tgt := 98) hx hb dX5_placed_30 (by have h0 := lv_neT c30_0 (show ((0 : Int32)).toInt = 0 from rfl); have h1 := lv_neT c30_1 (show ((1 : Int32)).toInt = 1 from rfl); have h2 := lv_neT c30_2 (show ((2 : Int32)).toInt = 2 from rfl); have h3 := lv_neT c30_3 (show ((3 : Int32)).toInt = 3 from rfl); omega) (by decide) ?_
        refine lv_iconst (v := (-1)) hx hb dX5_placed_98 (by decide) ?_
        refine nh_iret hx hb hr rfl hlocks hw (Nat.zero_le _) (Nat.zero_le _) dX5_placed_99 ?_
        simp only [xf_placed, ho2, ho17, if_neg c30_0, if_neg c30_1, if_neg c30_2, if_neg c30_3]
        exact im_fin rfl rfl
def xf_used (J : (nh_N → Nat → Int32)) (nk nc : Nat) (a : Int32) (b : Int32) : Int32 := (match xat nk b with | none => (if (xf_isPage J a) = 0 then (-1) else (if b = (-1) then (match xat nc a with | none => 0 | some q1 => (J (xP q1) 3)) else (-1))) | some j1 => (if (xf_isPage J a) = 0 then (-1) else (J (xSO j1) a.toNatClampNeg)))
set_option maxHeartbeats 4000000 in
set_option maxRecDepth 100000 in
theorem cxf_used (l : Launch) (D : va_G) (cA : Nat → ClassId) {S : nh_N → Option nh_C} {g : nh_N → Nat} {J : (nh_N → Nat → Int32)} {R : nh_N → Nat → Option nh_N}  {nk ni nc : Nat} {kd pl pn : Nat → Nat} {ow : Nat → Nat → Nat} (hsh : xSh S R nk ni nc kd pl pn ow) (a : Int32) (b : Int32)  : im_M l D cA yX5_used vX5_used 3 63 0 0 [.ref (g xX), .int a, .int b] S g J R (im_eq (some (.int (xf_used J nk nc a b))) S g J R) := by
  refine nh_of (cc := cX5_used) (maxL := 5) (ret := (some .int)) (by decide) rfl (Nat.le_of_ble_eq_true rfl) ?_
  intro p e s m below meth c A ls hx hb hr hml hts hown hlocks hin hK hw hl
  have ht : ∀ w ∈ im_ws, w.before _ s = true := fun w h => hts w (List.mem_cons_of_mem _ h)
  have hl : lv_has ls 5 [(0, .ref (g xX)), (1, .int a), (2, .int b)] := hl
  have hX := hsh.X
  refine lv_aload_n hx hb dX5_used_0 rfl (lv_at hl 0 rfl) ?_
  refine lv_iload_n hx hb dX5_used_1 rfl (lv_at hl 2 rfl) ?_
  refine kcX5_kindAt (As := [.int b]) (rest := []) wm5_57 (cxf_kindAt l D cA hX b nk hsh.nk8 hsh.KA) hx hb hml ht hown hK hw hX.1 rfl rfl hl.1 rfl (by simp [Value.category]) ⟨by decide, by decide⟩ ⟨by simp, by simp⟩ dX5_used_2 (fun v S1 g1 I1 R1 H locs hp hw => ?_)
  obtain ⟨rfl, h1, h2, h3, h4⟩ := hp
  rw [h1, h2, h3, h4] at hw
  clear h1 h2 h3 h4
  rcases ho2 : xat nk b with _ | j1
  · try rw [ho2]
    show W _ _ _ _ _ _ _ _ _ _ _ _ _ _ _ (F0 m 5 ls [.null])
    refine lv_astore_nN (lv' := [(3, .null), (0, .ref (g xX)), (1, .int a), (2, .int b)]) hx hb dX5_used_5 rfl hl (by decide) rfl (fun ls hl => ?_)
    refine lv_iload_n hx hb dX5_used_6 rfl (lv_at hl 2 rfl) ?_
    refine kcX5_isPage (As := [.int a]) (rest := []) wm5_61 (cxf_isPage l D cA a) hx hb hml ht hown hK hw rfl hl.1 rfl (by simp [Value.category]) ⟨by decide, by decide⟩ ⟨by simp, by simp⟩ dX5_used_7 (fun v S1 g1 I1 R1 H locs hp hw => ?_)
    obtain ⟨rfl, h1, h2, h3, h4⟩ := hp
    rw [h1, h2, h3, h4] at hw
    clear h1 h2 h3 h4
    show W _ _ _ _ _ _ _ _ _ _ _ _ _ _ _ (F0 m 10 ls [.int (xf_isPage J a)])
    refine lv_if_eq (tgt := 22) hx hb dX5_used_10 (by decide) (fun c10 => ?_) (fun c10 => ?_)
    · refine lv_iconst (v := (-1)) hx hb dX5_used_22 (by decide) ?_
      refine nh_iret hx hb hr rfl hlocks hw (Nat.zero_le _) (Nat.zero_le _) dX5_used_23 ?_
      simp only [xf_used, ho2, if_pos c10]
      exact im_fin rfl rfl
    · refine lv_aload_nN hx hb dX5_used_13 rfl (lv_at hl 0 rfl) ?_
      refine lv_ifnonnullN hx hb dX5_used_14 ?_
      refine lv_iload_n hx hb dX5_used_17 rfl (lv_at hl 3 rfl) ?_
      refine lv_iconst (v := (-1)) hx hb dX5_used_18 (by decide) ?_
      refine lv_icmp_eq (tgt := 24) hx hb dX5_used_19 (by decide) (fun c19 => ?_) (fun c19 => ?_)
      · refine lv_aload_nN hx hb dX5_used_24 rfl (lv_at hl 0 rfl) ?_
        refine lv_ifnullN (tgt := 35) hx hb dX5_used_25 (by decide) ?_
        refine lv_aload_n hx hb dX5_used_35 rfl (lv_at hl 1 rfl) ?_
        refine lv_iload_n hx hb dX5_used_36 rfl (lv_at hl 2 rfl) ?_
        refine kcX5_closedPageAt (As := [.int a]) (rest := []) wm5_109 (cxf_closedPageAt l D cA hX a nc hsh.nc4 hsh.PA) hx hb hml ht hown hK hw hX.1 rfl rfl hl.1 rfl (by simp [Value.category]) ⟨by decide, by decide⟩ ⟨by simp, by simp⟩ dX5_used_37 (fun v S1 g1 I1 R1 H locs hp hw => ?_)
        obtain ⟨rfl, h1, h2, h3, h4⟩ := hp
        rw [h1, h2, h3, h4] at hw
        clear h1 h2 h3 h4
        rcases ho37 : xat nc a with _ | q1
        · try rw [ho37]
          show W _ _ _ _ _ _ _ _ _ _ _ _ _ _ _ (F0 m 40 ls [.null])
          refine lv_astoreN (lv' := [(4, .null), (3, .null), (0, .ref (g xX)), (1, .int a), (2, .int b)]) hx hb dX5_used_40 hl (by decide) rfl (fun ls hl => ?_)
          refine lv_aloadN hx hb dX5_used_42 (lv_at hl 0 rfl) ?_
          refine lv_ifnonnullN hx hb dX5_used_44 ?_
          refine lv_iconst (v := 0) hx hb dX5_used_47 (by decide) ?_
          refine lv_goto (tgt := 56) hx hb dX5_used_48 (by decide) ?_
          refine nh_iret hx hb hr rfl hlocks hw (Nat.zero_le _) (Nat.zero_le _) dX5_used_56 ?_
          simp only [xf_used, ho2, if_neg c10, if_pos c19, ho37]
          exact im_fin rfl rfl
        · try rw [ho37]
          obtain ⟨eq1, hq1⟩ := xat_some ho37 (Nat.lt_of_le_of_lt hsh.nc4 (by decide))
          have hp1 := hsh.P q1 hq1
          show W _ _ _ _ _ _ _ _ _ _ _ _ _ _ _ (F0 m 40 ls [.ref (g (xP q1))])
          refine lv_astore (lv' := [(4, .ref (g (xP q1))), (3, .null), (0, .ref (g xX)), (1, .int a), (2, .int b)]) hx hb dX5_used_40 hl (by decide) rfl (fun ls hl => ?_)
          refine lv_aload hx hb dX5_used_42 (lv_at hl 0 rfl) ?_
          refine lv_ifnonnull (tgt := 51) hx hb dX5_used_44 (by decide) ?_
          refine lv_aload hx hb dX5_used_51 (lv_at hl 0 rfl) ?_
          refine fg3 (v := .int (J (xP q1) 3)) hx hb ht hown hK hw hp1.1.1 rfl 3 wf5_150 (by decide) (nh_vi rfl) dX5_used_53 ?_
          refine nh_iret hx hb hr rfl hlocks hw (Nat.zero_le _) (Nat.zero_le _) dX5_used_56 ?_
          simp only [xf_used, ho2, if_neg c10, if_pos c19, ho37]
          exact im_fin rfl rfl
      · refine lv_iconst (v := (-1)) hx hb dX5_used_22 (by decide) ?_
        refine nh_iret hx hb hr rfl hlocks hw (Nat.zero_le _) (Nat.zero_le _) dX5_used_23 ?_
        simp only [xf_used, ho2, if_neg c10, if_neg c19]
        exact im_fin rfl rfl
  · try rw [ho2]
    obtain ⟨ej1, hj1⟩ := xat_some ho2 (Nat.lt_of_le_of_lt hsh.nk8 (by decide))
    have hk1 := hsh.K j1 hj1
    show W _ _ _ _ _ _ _ _ _ _ _ _ _ _ _ (F0 m 5 ls [.ref (g (xK j1))])
    refine lv_astore_n (lv' := [(3, .ref (g (xK j1))), (0, .ref (g xX)), (1, .int a), (2, .int b)]) hx hb dX5_used_5 rfl hl (by decide) rfl (fun ls hl => ?_)
    refine lv_iload_n hx hb dX5_used_6 rfl (lv_at hl 2 rfl) ?_
    refine kcX5_isPage (As := [.int a]) (rest := []) wm5_61 (cxf_isPage l D cA a) hx hb hml ht hown hK hw rfl hl.1 rfl (by simp [Value.category]) ⟨by decide, by decide⟩ ⟨by simp, by simp⟩ dX5_used_7 (fun v S1 g1 I1 R1 H locs hp hw => ?_)
    obtain ⟨rfl, h1, h2, h3, h4⟩ := hp
    rw [h1, h2, h3, h4] at hw
    clear h1 h2 h3 h4
    show W _ _ _ _ _ _ _ _ _ _ _ _ _ _ _ (F0 m 10 ls [.int (xf_isPage J a)])
    refine lv_if_eq (tgt := 22) hx hb dX5_used_10 (by decide) (fun c10 => ?_) (fun c10 => ?_)
    · refine lv_iconst (v := (-1)) hx hb dX5_used_22 (by decide) ?_
      refine nh_iret hx hb hr rfl hlocks hw (Nat.zero_le _) (Nat.zero_le _) dX5_used_23 ?_
      simp only [xf_used, ho2, if_pos c10]
      exact im_fin rfl rfl
    · refine lv_aload_n hx hb dX5_used_13 rfl (lv_at hl 0 rfl) ?_
      refine lv_ifnonnull (tgt := 24) hx hb dX5_used_14 (by decide) ?_
      refine lv_aload_n hx hb dX5_used_24 rfl (lv_at hl 0 rfl) ?_
      refine lv_ifnull hx hb dX5_used_25 ?_
      refine lv_aload_n hx hb dX5_used_28 rfl (lv_at hl 0 rfl) ?_
      refine fg1 hx hb ht hown hK hw hk1.1 rfl 3 wf5_146 (by decide) (nh_vr rfl hk1.2.1) dX5_used_29 ?_
      refine lv_iload_n hx hb dX5_used_32 rfl (lv_at hl 2 rfl) ?_
      refine ai_ld hx hb hK hw hk1.2.2.1 rfl (xi_v c10) dX5_used_33 ?_
      refine nh_iret hx hb hr rfl hlocks hw (Nat.zero_le _) (Nat.zero_le _) dX5_used_34 ?_
      simp only [xf_used, ho2, if_neg c10]
      exact im_fin rfl rfl
def xf_mark (J : (nh_N → Nat → Int32)) (nk : Nat) (a : Int32) (b : Int32) (d : Int32) : Int32 × (nh_N → Nat → Int32) := (match xat nk a with | none => ((-1), J) | some j1 => (if (xf_isPage J d) = 0 then ((-2), J) else (if (xf_isClosed J d) = 0 then (if (J xX 7) < 300 then (((xf_addMark J j1 d b).2 xX 7) + 1, (iu (xf_addMark J j1 d b).2 xX 7 (((xf_addMark J j1 d b).2 xX 7) + 1))) else ((-4), J)) else ((-3), J))))
set_option maxHeartbeats 4000000 in
set_option maxRecDepth 100000 in
theorem cxf_mark (l : Launch) (D : va_G) (cA : Nat → ClassId) {S : nh_N → Option nh_C} {g : nh_N → Nat} {J : (nh_N → Nat → Int32)} {R : nh_N → Nat → Option nh_N}  {nk ni nc : Nat} {kd pl pn : Nat → Nat} {ow : Nat → Nat → Nat} (hsh : xSh S R nk ni nc kd pl pn ow) (a : Int32) (b : Int32) (d : Int32)  : im_M l D cA yX5_mark vX5_mark 2 43 0 0 [.ref (g xX), .int a, .int b, .int d] S g J R (im_eq (some (.int (xf_mark J nk a b d).1)) S g (xf_mark J nk a b d).2 R) := by
  refine nh_of (cc := cX5_mark) (maxL := 5) (ret := (some .int)) (by decide) rfl (Nat.le_of_ble_eq_true rfl) ?_
  intro p e s m below meth c A ls hx hb hr hml hts hown hlocks hin hK hw hl
  have ht : ∀ w ∈ im_ws, w.before _ s = true := fun w h => hts w (List.mem_cons_of_mem _ h)
  have hl : lv_has ls 5 [(0, .ref (g xX)), (1, .int a), (2, .int b), (3, .int d)] := hl
  have hX := hsh.X
  refine lv_aload_n hx hb dX5_mark_0 rfl (lv_at hl 0 rfl) ?_
  refine lv_iload_n hx hb dX5_mark_1 rfl (lv_at hl 1 rfl) ?_
  refine kcX5_kindAt (As := [.int a]) (rest := []) wm5_57 (cxf_kindAt l D cA hX a nk hsh.nk8 hsh.KA) hx hb hml ht hown hK hw hX.1 rfl rfl hl.1 rfl (by simp [Value.category]) ⟨by decide, by decide⟩ ⟨by simp, by simp⟩ dX5_mark_2 (fun v S1 g1 I1 R1 H locs hp hw => ?_)
  obtain ⟨rfl, h1, h2, h3, h4⟩ := hp
  rw [h1, h2, h3, h4] at hw
  clear h1 h2 h3 h4
  rcases ho2 : xat nk a with _ | j1
  · try rw [ho2]
    show W _ _ _ _ _ _ _ _ _ _ _ _ _ _ _ (F0 m 5 ls [.null])
    refine lv_astoreN (lv' := [(4, .null), (0, .ref (g xX)), (1, .int a), (2, .int b), (3, .int d)]) hx hb dX5_mark_5 hl (by decide) rfl (fun ls hl => ?_)
    refine lv_aloadN hx hb dX5_mark_7 (lv_at hl 0 rfl) ?_
    refine lv_ifnonnullN hx hb dX5_mark_9 ?_
    refine lv_iconst (v := (-1)) hx hb dX5_mark_12 (by decide) ?_
    refine nh_iret hx hb hr rfl hlocks hw (Nat.zero_le _) (Nat.zero_le _) dX5_mark_13 ?_
    simp only [xf_mark, ho2]
    exact im_fin rfl rfl
  · try rw [ho2]
    obtain ⟨ej1, hj1⟩ := xat_some ho2 (Nat.lt_of_le_of_lt hsh.nk8 (by decide))
    have hk1 := hsh.K j1 hj1
    show W _ _ _ _ _ _ _ _ _ _ _ _ _ _ _ (F0 m 5 ls [.ref (g (xK j1))])
    refine lv_astore (lv' := [(4, .ref (g (xK j1))), (0, .ref (g xX)), (1, .int a), (2, .int b), (3, .int d)]) hx hb dX5_mark_5 hl (by decide) rfl (fun ls hl => ?_)
    refine lv_aload hx hb dX5_mark_7 (lv_at hl 0 rfl) ?_
    refine lv_ifnonnull (tgt := 14) hx hb dX5_mark_9 (by decide) ?_
    refine lv_iload_n hx hb dX5_mark_14 rfl (lv_at hl 4 rfl) ?_
    refine kcX5_isPage (As := [.int d]) (rest := []) wm5_61 (cxf_isPage l D cA d) hx hb hml ht hown hK hw rfl hl.1 rfl (by simp [Value.category]) ⟨by decide, by decide⟩ ⟨by simp, by simp⟩ dX5_mark_15 (fun v S1 g1 I1 R1 H locs hp hw => ?_)
    obtain ⟨rfl, h1, h2, h3, h4⟩ := hp
    rw [h1, h2, h3, h4] at hw
    clear h1 h2 h3 h4
    show W _ _ _ _ _ _ _ _ _ _ _ _ _ _ _ (F0 m 18 ls [.int (xf_isPage J d)])
    refine lv_if_ne (tgt := 24) hx hb dX5_mark_18 (by decide) (fun c18 => ?_) (fun c18 => ?_)
    · refine lv_aload_n hx hb dX5_mark_24 rfl (lv_at hl 1 rfl) ?_
      refine lv_iload_n hx hb dX5_mark_25 rfl (lv_at hl 4 rfl) ?_
      refine kcX5_isClosed (As := [.int d]) (rest := []) wm5_65 (cxf_isClosed l D cA hX d) hx hb hml ht hown hK hw hX.1 rfl rfl hl.1 rfl (by simp [Value.category]) ⟨by decide, by decide⟩ ⟨by simp, by simp⟩ dX5_mark_26 (fun v S1 g1 I1 R1 H locs hp hw => ?_)
      obtain ⟨rfl, h1, h2, h3, h4⟩ := hp
      rw [h1, h2, h3, h4] at hw
      clear h1 h2 h3 h4
      show W _ _ _ _ _ _ _ _ _ _ _ _ _ _ _ (F0 m 29 ls [.int (xf_isClosed J d)])
      refine lv_if_eq (tgt := 35) hx hb dX5_mark_29 (by decide) (fun c29 => ?_) (fun c29 => ?_)
      · refine lv_aload_n hx hb dX5_mark_35 rfl (lv_at hl 1 rfl) ?_
        refine fg5 (v := .int (J xX 7)) hx hb ht hown hK hw hX.1 rfl 7 wf5_74 (by decide) (nh_vi rfl) dX5_mark_36 ?_
        refine lv_sipush (v := 300) hx hb dX5_mark_39 (by decide) ?_
        refine lv_icmp_lt (tgt := 48) hx hb dX5_mark_42 (by decide) (fun c42 => ?_) (fun c42 => ?_)
        · refine lv_aload hx hb dX5_mark_48 (lv_at hl 0 rfl) ?_
          refine lv_iload_n hx hb dX5_mark_50 rfl (lv_at hl 4 rfl) ?_
          refine lv_iload_n hx hb dX5_mark_51 rfl (lv_at hl 3 rfl) ?_
          refine kcX1_addMark (As := [.int d, .int b]) (rest := []) wm5_77 (cxf_addMark l D cA j1 hk1 d b (xi_v c18)) hx hb hml ht hown hK hw hk1.1 rfl rfl hl.1 rfl (by simp [Value.category]) ⟨by decide, by decide⟩ ⟨by simp, by simp⟩ dX5_mark_52 (fun v S1 g1 J1 R1 H locs hp hw => ?_)
          obtain ⟨rfl, h1, h2, eJ1, h4⟩ := hp
          rw [h1, h2, h4] at hw
          clear h1 h2 h4
          show W _ _ _ _ _ _ _ _ _ _ _ _ _ _ _ (F0 m 55 ls [])
          refine lv_aload_n hx hb dX5_mark_55 rfl (lv_at hl 1 rfl) ?_
          refine lv_dup hx hb dX5_mark_56 rfl ?_
          refine fg5 (v := .int (J1 xX 7)) hx hb ht hown hK hw hX.1 rfl 7 wf5_74 (by decide) (nh_vi rfl) dX5_mark_57 ?_
          refine lv_iconst (v := 1) hx hb dX5_mark_60 (by decide) ?_
          refine lv_iadd hx hb dX5_mark_61 ?_
          refine fp5 hx hb ht hown hK hw hX.1 rfl 7 wf5_74 (by decide) rfl rfl rfl rfl dX5_mark_62 (fun H locs J2 eJ2 hw => ?_)
          refine lv_aload_n hx hb dX5_mark_65 rfl (lv_at hl 1 rfl) ?_
          refine fg5 (v := .int ((J1 xX 7) + 1)) hx hb ht hown hK hw hX.1 rfl 7 wf5_74 (by decide) (by simp [nh_v, im_sk, iu_e, xX, xKA, xIA, xPA, xLN, xLR, xK, xSO, xHM, xFT, xLT, xN, xP, xPP, xQ, eJ2]) dX5_mark_66 ?_
          refine nh_iret hx hb hr rfl hlocks hw (Nat.zero_le _) (Nat.zero_le _) dX5_mark_69 ?_
          subst eJ2
          subst eJ1
          simp only [xf_mark, ho2, if_neg c18, if_pos c29, if_pos c42]
          exact im_fin rfl rfl
        · refine lv_bipush (v := (-4)) hx hb dX5_mark_45 (by decide) ?_
          refine nh_iret hx hb hr rfl hlocks hw (Nat.zero_le _) (Nat.zero_le _) dX5_mark_47 ?_
          simp only [xf_mark, ho2, if_neg c18, if_pos c29, if_neg c42]
          exact im_fin rfl rfl
      · refine lv_bipush (v := (-3)) hx hb dX5_mark_32 (by decide) ?_
        refine nh_iret hx hb hr rfl hlocks hw (Nat.zero_le _) (Nat.zero_le _) dX5_mark_34 ?_
        simp only [xf_mark, ho2, if_neg c18, if_neg c29]
        exact im_fin rfl rfl
    · refine lv_bipush (v := (-2)) hx hb dX5_mark_21 (by decide) ?_
      refine nh_iret hx hb hr rfl hlocks hw (Nat.zero_le _) (Nat.zero_le _) dX5_mark_23 ?_
      simp only [xf_mark, ho2, if_pos c18]
      exact im_fin rfl rfl
def xf_cancel (J : (nh_N → Nat → Int32)) (ni ln : Nat) (kd : Nat → Nat) (a : Int32) : Int32 × (nh_N → Nat → Int32) := (match xat ni a with | none => ((-1), J) | some i1 => (if 0 < (J (xN i1) 7) then ((-3), J) else (if (xf_isTakenBack J i1 (kd i1)) = 0 then (1, (xf_takeOut (iu J (xN i1) 3 0) ln a)) else ((-3), J))))
set_option maxHeartbeats 4000000 in
set_option maxRecDepth 100000 in
theorem cxf_cancel (l : Launch) (D : va_G) (cA : Nat → ClassId) {S : nh_N → Option nh_C} {g : nh_N → Nat} {J : (nh_N → Nat → Int32)} {R : nh_N → Nat → Option nh_N}  {nk ni nc : Nat} {kd pl pn : Nat → Nat} {ow : Nat → Nat → Nat} (hsh : xSh S R nk ni nc kd pl pn ow) (a : Int32) (ln : Nat) (hln : J xLN 1 = nI ln) (hl2 : ln ≤ 200) : im_M l D cA yX5_cancel vX5_cancel 2 43 0 0 [.ref (g xX), .int a] S g J R (im_eq (some (.int (xf_cancel J ni ln kd a).1)) S g (xf_cancel J ni ln kd a).2 R) := by
  refine nh_of (cc := cX5_cancel) (maxL := 3) (ret := (some .int)) (by decide) rfl (Nat.le_of_ble_eq_true rfl) ?_
  intro p e s m below meth c A ls hx hb hr hml hts hown hlocks hin hK hw hl
  have ht : ∀ w ∈ im_ws, w.before _ s = true := fun w h => hts w (List.mem_cons_of_mem _ h)
  have hl : lv_has ls 3 [(0, .ref (g xX)), (1, .int a)] := hl
  have hX := hsh.X
  refine lv_aload_n hx hb dX5_cancel_0 rfl (lv_at hl 0 rfl) ?_
  refine lv_iload_n hx hb dX5_cancel_1 rfl (lv_at hl 1 rfl) ?_
  refine kcX5_insertAt (As := [.int a]) (rest := []) wm5_91 (cxf_insertAt l D cA hX a ni hsh.ni2 hsh.IA) hx hb hml ht hown hK hw hX.1 rfl rfl hl.1 rfl (by simp [Value.category]) ⟨by decide, by decide⟩ ⟨by simp, by simp⟩ dX5_cancel_2 (fun v S1 g1 I1 R1 H locs hp hw => ?_)
  obtain ⟨rfl, h1, h2, h3, h4⟩ := hp
  rw [h1, h2, h3, h4] at hw
  clear h1 h2 h3 h4
  rcases ho2 : xat ni a with _ | i1
  · try rw [ho2]
    show W _ _ _ _ _ _ _ _ _ _ _ _ _ _ _ (F0 m 5 ls [.null])
    refine lv_astore_nN (lv' := [(2, .null), (0, .ref (g xX)), (1, .int a)]) hx hb dX5_cancel_5 rfl hl (by decide) rfl (fun ls hl => ?_)
    refine lv_aload_nN hx hb dX5_cancel_6 rfl (lv_at hl 0 rfl) ?_
    refine lv_ifnonnullN hx hb dX5_cancel_7 ?_
    refine lv_iconst (v := (-1)) hx hb dX5_cancel_10 (by decide) ?_
    refine nh_iret hx hb hr rfl hlocks hw (Nat.zero_le _) (Nat.zero_le _) dX5_cancel_11 ?_
    simp only [xf_cancel, ho2]
    exact im_fin rfl rfl
  · try rw [ho2]
    obtain ⟨ei1, hi1⟩ := xat_some ho2 (Nat.lt_of_le_of_lt hsh.ni2 (by decide))
    have hn1 := hsh.N i1 hi1
    show W _ _ _ _ _ _ _ _ _ _ _ _ _ _ _ (F0 m 5 ls [.ref (g (xN i1))])
    refine lv_astore_n (lv' := [(2, .ref (g (xN i1))), (0, .ref (g xX)), (1, .int a)]) hx hb dX5_cancel_5 rfl hl (by decide) rfl (fun ls hl => ?_)
    refine lv_aload_n hx hb dX5_cancel_6 rfl (lv_at hl 0 rfl) ?_
    refine lv_ifnonnull (tgt := 12) hx hb dX5_cancel_7 (by decide) ?_
    refine lv_aload_n hx hb dX5_cancel_12 rfl (lv_at hl 0 rfl) ?_
    refine fg0 (v := .int (J (xN i1) 7)) hx hb ht hown hK hw hn1.1.1 rfl 7 wf5_95 (by decide) (nh_vi rfl) dX5_cancel_13 ?_
    refine lv_if_gt (tgt := 26) hx hb dX5_cancel_16 (by decide) (fun c16 => ?_) (fun c16 => ?_)
    · refine lv_bipush (v := (-3)) hx hb dX5_cancel_26 (by decide) ?_
      refine nh_iret hx hb hr rfl hlocks hw (Nat.zero_le _) (Nat.zero_le _) dX5_cancel_28 ?_
      simp only [xf_cancel, ho2, if_pos c16]
      exact im_fin rfl rfl
    · refine lv_aload_n hx hb dX5_cancel_19 rfl (lv_at hl 0 rfl) ?_
      refine kcX0_isTakenBack (As := []) (rest := []) wm5_98 (cxf_isTakenBack l D cA i1 (kd i1) hn1.1) hx hb hml ht hown hK hw hn1.1.1 rfl rfl hl.1 rfl (by simp [Value.category]) ⟨by decide, by decide⟩ ⟨by simp, by simp⟩ dX5_cancel_20 (fun v S1 g1 I1 R1 H locs hp hw => ?_)
      obtain ⟨rfl, h1, h2, h3, h4⟩ := hp
      rw [h1, h2, h3, h4] at hw
      clear h1 h2 h3 h4
      show W _ _ _ _ _ _ _ _ _ _ _ _ _ _ _ (F0 m 23 ls [.int (xf_isTakenBack J i1 (kd i1))])
      refine lv_if_eq (tgt := 29) hx hb dX5_cancel_23 (by decide) (fun c23 => ?_) (fun c23 => ?_)
      · refine lv_aload_n hx hb dX5_cancel_29 rfl (lv_at hl 0 rfl) ?_
        refine lv_iconst (v := 0) hx hb dX5_cancel_30 (by decide) ?_
        refine fp0 hx hb ht hown hK hw hn1.1.1 rfl 3 wf5_102 (by decide) rfl rfl rfl rfl dX5_cancel_31 (fun H locs J1 eJ1 hw => ?_)
        refine lv_aload_n hx hb dX5_cancel_34 rfl (lv_at hl 1 rfl) ?_
        refine fg5 hx hb ht hown hK hw hX.1 rfl 4 wf5_30 (by decide) (nh_vr rfl hX.2.2.2.2.2.2.2.1) dX5_cancel_35 ?_
        refine lv_iload_n hx hb dX5_cancel_38 rfl (lv_at hl 2 rfl) ?_
        refine kcX2_takeOut (As := [.int a]) (rest := []) wm5_105 (cxg_takeOut l D cA hX.2.2.2.2.2.2.2.2 a ln (by simp [iu_e, xN, xLN, eJ1, hln]) hl2) hx hb hml ht hown hK hw hX.2.2.2.2.2.2.2.2.1 rfl rfl hl.1 rfl (by simp [Value.category]) ⟨by decide, by decide⟩ ⟨by simp, by simp⟩ dX5_cancel_39 (fun v S1 g1 J2 R1 H locs hp hw => ?_)
        obtain ⟨rfl, h1, h2, eJ2, h4⟩ := hp
        rw [h1, h2, h4] at hw
        clear h1 h2 h4
        show W _ _ _ _ _ _ _ _ _ _ _ _ _ _ _ (F0 m 42 ls [])
        refine lv_iconst (v := 1) hx hb dX5_cancel_42 (by decide) ?_
        refine nh_iret hx hb hr rfl hlocks hw (Nat.zero_le _) (Nat.zero_le _) dX5_cancel_43 ?_
        subst eJ2
        subst eJ1
        simp only [xf_cancel, ho2, if_neg c16, if_pos c23]
        exact im_fin rfl rfl
      · refine lv_bipush (v := (-3)) hx hb dX5_cancel_26 (by decide) ?_
        refine nh_iret hx hb hr rfl hlocks hw (Nat.zero_le _) (Nat.zero_le _) dX5_cancel_28 ?_
        simp only [xf_cancel, ho2, if_neg c16, if_neg c23]
        exact im_fin rfl rfl
def xf_freeOn (J : (nh_N → Nat → Int32)) (q k : Nat)  : Int32 := (if 0 < (if ((J xX 0) - (J (xP q) 3)) < ((J (xK k) 0) - (J (xSO k) (J (xP q) 0).toNatClampNeg)) then ((J xX 0) - (J (xP q) 3)) else ((J (xK k) 0) - (J (xSO k) (J (xP q) 0).toNatClampNeg))) then (if ((J xX 0) - (J (xP q) 3)) < ((J (xK k) 0) - (J (xSO k) (J (xP q) 0).toNatClampNeg)) then ((J xX 0) - (J (xP q) 3)) else ((J (xK k) 0) - (J (xSO k) (J (xP q) 0).toNatClampNeg))) else 0)
set_option maxHeartbeats 4000000 in
set_option maxRecDepth 100000 in
theorem cxf_freeOn (l : Launch) (D : va_G) (cA : Nat → ClassId) {S : nh_N → Option nh_C} {g : nh_N → Nat} {J : (nh_N → Nat → Int32)} {R : nh_N → Nat → Option nh_N} (q k : Nat) {n : Nat} (hX : xXs S R) (hp0 : xPs S R q n) (hk : xKs S R k)  (hq0 : J (xP q) 0 = nI q) (hq4 : q < 40) : im_M l D cA yX5_freeOn vX5_freeOn 1 20 0 0 [.ref (g xX), .ref (g (xP q)), .ref (g (xK k))] S g J R (im_eq (some (.int (xf_freeOn J q k))) S g J R) := by
  refine nh_of (cc := cX5_freeOn) (maxL := 5) (ret := (some .int)) (by decide) rfl (Nat.le_of_ble_eq_true rfl) ?_
  intro p e s m below meth c A ls hx hb hr hml hts hown hlocks hin hK hw hl
  have ht : ∀ w ∈ im_ws, w.before _ s = true := fun w h => hts w (List.mem_cons_of_mem _ h)
  have hl : lv_has ls 5 [(0, .ref (g xX)), (1, .ref (g (xP q))), (2, .ref (g (xK k)))] := hl
  refine lv_aload_n hx hb dX5_freeOn_0 rfl (lv_at hl 2 rfl) ?_
  refine fg1 (v := .int (J (xK k) 0)) hx hb ht hown hK hw hk.1 rfl 0 wf5_208 (by decide) (nh_vi rfl) dX5_freeOn_1 ?_
  refine lv_aload_n hx hb dX5_freeOn_4 rfl (lv_at hl 2 rfl) ?_
  refine fg1 hx hb ht hown hK hw hk.1 rfl 3 wf5_146 (by decide) (nh_vr rfl hk.2.1) dX5_freeOn_5 ?_
  refine lv_aload_n hx hb dX5_freeOn_8 rfl (lv_at hl 1 rfl) ?_
  refine fg3 (v := .int (J (xP q) 0)) hx hb ht hown hK hw hp0.1 rfl 0 wf5_211 (by decide) (nh_vi rfl) dX5_freeOn_9 ?_
  refine ai_ld hx hb hK hw hk.2.2.1 rfl (ix_of q hq0 hq4 (by decide)) dX5_freeOn_12 ?_
  refine lv_isub hx hb dX5_freeOn_13 ?_
  refine lv_istore_n (lv' := [(3, .int ((J (xK k) 0) - (J (xSO k) (J (xP q) 0).toNatClampNeg))), (0, .ref (g xX)), (1, .ref (g (xP q))), (2, .ref (g (xK k)))]) hx hb dX5_freeOn_14 rfl hl (by decide) rfl (fun ls hl => ?_)
  refine lv_aload_n hx hb dX5_freeOn_15 rfl (lv_at hl 1 rfl) ?_
  refine fg5 (v := .int (J xX 0)) hx hb ht hown hK hw hX.1 rfl 0 wf5_43 (by decide) (nh_vi rfl) dX5_freeOn_16 ?_
  refine lv_aload_n hx hb dX5_freeOn_19 rfl (lv_at hl 2 rfl) ?_
  refine fg3 (v := .int (J (xP q) 3)) hx hb ht hown hK hw hp0.1 rfl 3 wf5_150 (by decide) (nh_vi rfl) dX5_freeOn_20 ?_
  refine lv_isub hx hb dX5_freeOn_23 ?_
  refine lv_istore (lv' := [(4, .int ((J xX 0) - (J (xP q) 3))), (3, .int ((J (xK k) 0) - (J (xSO k) (J (xP q) 0).toNatClampNeg))), (0, .ref (g xX)), (1, .ref (g (xP q))), (2, .ref (g (xK k)))]) hx hb dX5_freeOn_24 hl (by decide) rfl (fun ls hl => ?_)
  refine lv_iconst (v := 0) hx hb dX5_freeOn_26 (by decide) ?_
  refine lv_iload_n hx hb dX5_freeOn_27 rfl (lv_at hl 1 rfl) ?_
  refine lv_iload hx hb dX5_freeOn_28 (lv_at hl 0 rfl) ?_
  refine im_min hx hb (by rw [hml]; exact hl.1.symm) ht hown wm5_34 (by decide) (by simp [Value.category]) (by simp) (by simp) dX5_freeOn_30 ?_
  refine im_max hx hb (by rw [hml]; exact hl.1.symm) ht hown wm5_40 (by decide) (by simp [Value.category]) (by simp) (by simp) dX5_freeOn_33 ?_
  refine nh_iret hx hb hr rfl hlocks hw (Nat.zero_le _) (Nat.zero_le _) dX5_freeOn_36 ?_
  exact im_fin rfl rfl
