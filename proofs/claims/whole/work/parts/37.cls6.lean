def xHs (nk : Nat) (J : nh_N → Nat → Int32) : Prop := J xX 5 = nI nk
def xOs (_ : Nat) (_ : nh_N → Nat → Int32) : Prop := True
def xHl (ni : Nat) (J : nh_N → Nat → Int32) : Prop := J xX 6 = nI ni
def xOl (_ : Nat) (J : nh_N → Nat → Int32) : Prop := ∃ n, J xLN 1 = nI n ∧ n ≤ 200
def xs_sp  (j : Nat) (J : (nh_N → Nat → Int32)) : (nh_N → Nat → Int32) := (xf_startPage J j).2
def xl_sp  : Nat → Nat → (nh_N → Nat → Int32) → (nh_N → Nat → Int32)
  | 0, _, J => J
  | r + 1, j, J => xl_sp  r (j + 1) (xs_sp  j J)
set_option maxHeartbeats 4000000 in
set_option maxRecDepth 100000 in
theorem xw_sp {p : Program} {l : Launch} {e : Env} {s : State} {m : MethodId} {below : List Frame} {meth : Method} {c0 : Code} {A : Nat → Prop} {D : va_G} {cA : Nat → ClassId} {S : nh_N → Option nh_C} {g : nh_N → Nat} {R : nh_N → Nat → Option nh_N} {av : Array Value} {Q : State → Prop} (hx : p.tables.exec = Jvm.exec) (hb : c0.code = cX5_startPageInKinds) (hml : c0.maxLocals = 3) (ht : ∀ w ∈ im_ws, w.before av s = true) (hown : s.vm.findClass qR5 = some m.cls) (hK : im_K D cA s)  {nk ni nc : Nat} {kd pl pn : Nat → Nat} {ow : Nat → Nat → Nat} (hsh : xSh S R nk ni nc kd pl pn ow)   : ∀ (r j : Nat) (J : (nh_N → Nat → Int32)) (H : Heap) (locs : List Loc) (ls : Array Slot), j + r = nk → (∀ t, t ≤ r → xHs nk (xl_sp  t j J)) → (∀ t, t < r → xOs (j + t) (xl_sp  t j J)) → nh_S D im_cl im_sk cA A s.heap S g J R H locs → lv_has ls 3 [(0, .ref (g xX)), (1, .int (nI j))] → (∀ (H : Heap) (locs : List Loc) (ls : Array Slot), nh_S D im_cl im_sk cA A s.heap S g (xl_sp  r j J) R H locs → lv_has ls 3 [(0, .ref (g xX)), (1, .int (nI nk))] → W p l e { frames := 2, cells := 0, slots := 0, locals := 43 } s m av below meth c0 H locs 0 0 Q (F0 m 30 ls [])) → W p l e { frames := 2, cells := 0, slots := 0, locals := 43 } s m av below meth c0 H locs 0 0 Q (F0 m 2 ls []) := by
  intro r
  induction r with
  | zero =>
    intro j J H locs ls hj hh hOK hw hl kk
    have hh0 : xHs nk J := hh 0 (by omega)
    have hX := hsh.X
    refine lv_iload_n hx hb dX5_startPageInKinds_2 rfl (lv_at hl 1 rfl) ?_
    refine lv_aload_n hx hb dX5_startPageInKinds_3 rfl (lv_at hl 0 rfl) ?_
    refine fg5 (v := .int (J xX 5)) hx hb ht hown hK hw hX.1 rfl 5 wf5_51 (by decide) (nh_vi rfl) dX5_startPageInKinds_4 ?_
    refine lv_icmp_ge (tgt := 30) hx hb dX5_startPageInKinds_7 (by decide) (fun c7 => ?_) (fun c7 => ?_)
    · exact kk _ _ ls hw (by have h9 := lv_sub hl [0, 1] rfl; rw [show j = nk by omega] at h9; exact h9)
    · exact absurd (by rw [show J xX 5 = nI nk from hh0]; exact nI_le (by omega) (by have := hsh.nk8; omega)) c7
  | succ r ih =>
    intro j J H locs ls hj hh hOK hw hl kk
    have hh0 : xHs nk J := hh 0 (by omega)
    have hX := hsh.X
    have hok : xOs j J := hOK 0 (by omega)
    have hn8 := hsh.nk8
    refine lv_iload_n hx hb dX5_startPageInKinds_2 rfl (lv_at hl 1 rfl) ?_
    refine lv_aload_n hx hb dX5_startPageInKinds_3 rfl (lv_at hl 0 rfl) ?_
    refine fg5 (v := .int (J xX 5)) hx hb ht hown hK hw hX.1 rfl 5 wf5_51 (by decide) (nh_vi rfl) dX5_startPageInKinds_4 ?_
    refine lv_icmp_ge (tgt := 30) hx hb dX5_startPageInKinds_7 (by decide) (fun c7 => ?_) (fun c7 => ?_)
    · exact absurd c7 (by rw [show J xX 5 = nI nk from hh0]; exact nI_ge (by omega) (by have := hsh.nk8; omega))
    · refine lv_aload_n hx hb dX5_startPageInKinds_10 rfl (lv_at hl 0 rfl) ?_
      refine lv_iload_n hx hb dX5_startPageInKinds_11 rfl (lv_at hl 1 rfl) ?_
      refine kcX5_kindAt (As := [.int (nI j)]) (rest := []) wm5_57 (cxf_kindAt l D cA hX (nI j) nk hsh.nk8 hsh.KA) hx hb hml ht hown hK hw hX.1 rfl rfl hl.1 rfl (by simp [Value.category]) ⟨by decide, by decide⟩ ⟨by simp, by simp⟩ dX5_startPageInKinds_12 (fun v S1 g1 I1 R1 H locs hp hw => ?_)
      obtain ⟨rfl, h1, h2, h3, h4⟩ := hp
      rw [h1, h2, h3, h4] at hw
      clear h1 h2 h3 h4
      rw [show xat nk (nI j) = some j by rw [xat_nI (by omega), if_pos (by omega)]]
      have hk1 := hsh.K j (by omega)
      show W _ _ _ _ _ _ _ _ _ _ _ _ _ _ _ (F0 m 15 ls [.ref (g (xK j))])
      refine lv_astore_n (lv' := [(2, .ref (g (xK j))), (0, .ref (g xX)), (1, .int (nI j))]) hx hb dX5_startPageInKinds_15 rfl hl (by decide) rfl (fun ls hl => ?_)
      refine lv_aload_n hx hb dX5_startPageInKinds_16 rfl (lv_at hl 0 rfl) ?_
      refine lv_ifnull hx hb dX5_startPageInKinds_17 ?_
      refine lv_aload_n hx hb dX5_startPageInKinds_20 rfl (lv_at hl 0 rfl) ?_
      refine kcX1_startPage (As := []) (rest := []) wm5_186 (cxf_startPage l D cA j hk1) hx hb hml ht hown hK hw hk1.1 rfl rfl hl.1 rfl (by simp [Value.category]) ⟨by decide, by decide⟩ ⟨by simp, by simp⟩ dX5_startPageInKinds_21 (fun v S1 g1 J1 R1 H locs hp hw => ?_)
      obtain ⟨rfl, h1, h2, eJ1, h4⟩ := hp
      rw [h1, h2, h4] at hw
      clear h1 h2 h4
      show W _ _ _ _ _ _ _ _ _ _ _ _ _ _ _ (F0 m 24 ls [])
      refine lv_iinc (v := (nI j) + 1) (lv' := [(1, .int ((nI j) + 1)), (2, .ref (g (xK j))), (0, .ref (g xX))]) hx hb dX5_startPageInKinds_24 hl (k := 2) rfl rfl (by decide) rfl (fun ls hl => ?_)
      refine lv_goto (tgt := 2) hx hb dX5_startPageInKinds_27 (by decide) ?_
      have h9 : lv_has ls 3 [(0, .ref (g xX)), (1, .int ((nI j) + 1))] := lv_sub hl [2, 0] rfl
      rw [nI_1] at h9
      subst eJ1
      have hstep : xs_sp  j J = (xf_startPage J j).2 := by rfl
      exact ih (j + 1) _ _ _ ls (by omega) (fun t h0 => by have h7 := hh (t + 1) (by omega); rw [← hstep]; exact h7) (fun t h0 => by have h7 := hOK (t + 1) (by omega); rw [show j + (t + 1) = j + 1 + t by omega] at h7; rw [← hstep]; exact h7) hw h9 (by rw [← hstep]; exact kk)
theorem xsp_ok {nk : Nat} : ∀ (t j : Nat) (J : nh_N → Nat → Int32), J xX 5 = nI nk → xHs nk (xl_sp t j J) := by
  intro t
  induction t with
  | zero => intro j J h; exact h
  | succ t ih =>
    intro j J h
    refine ih (j + 1) _ ?_
    unfold xs_sp xf_startPage
    split <;> simp [iu_e, xX, xKA, xIA, xPA, xLN, xLR, xK, xSO, xHM, xFT, xLT, xN, xP, xPP, xQ] <;> exact h
set_option maxHeartbeats 4000000 in
set_option maxRecDepth 100000 in
theorem cxf_startPages (l : Launch) (D : va_G) (cA : Nat → ClassId) {S : nh_N → Option nh_C} {g : nh_N → Nat} {J : (nh_N → Nat → Int32)} {R : nh_N → Nat → Option nh_N}  {nk ni nc : Nat} {kd pl pn : Nat → Nat} {ow : Nat → Nat → Nat} (hsh : xSh S R nk ni nc kd pl pn ow)  (hk0 : J xX 5 = nI nk) : im_M l D cA yX5_startPageInKinds vX5_startPageInKinds 2 43 0 0 [.ref (g xX)] S g J R (im_eq none S g (xl_sp nk 0 J) R) := by
  refine nh_of (cc := cX5_startPageInKinds) (maxL := 3) (ret := none) (by decide) rfl (Nat.le_of_ble_eq_true rfl) ?_
  intro p e s m below meth c A ls hx hb hr hml hts hown hlocks hin hK hw hl
  have ht : ∀ w ∈ im_ws, w.before _ s = true := fun w h => hts w (List.mem_cons_of_mem _ h)
  have hl : lv_has ls 3 [(0, .ref (g xX))] := hl
  refine lv_iconst (v := 0) hx hb dX5_startPageInKinds_0 (by decide) ?_
  refine lv_istore_n (lv' := [(1, .int 0), (0, .ref (g xX))]) hx hb dX5_startPageInKinds_1 rfl hl (by decide) rfl (fun ls hl => ?_)
  refine xw_sp hx hb hml ht hown hK hsh nk 0 J _ _ ls (by omega) (fun t _ => xsp_ok t 0 J hk0) (fun _ _ => trivial) hw (by rw [nI_0]; exact lv_sub hl [1, 0] rfl) (fun H locs ls hw hl => ?_)
  have hl : lv_has ls 3 [(0, .ref (g xX)), (1, .int (nI nk))] := hl
  refine nh_vret hx hb hr hlocks hw (Nat.zero_le _) (Nat.zero_le _) dX5_startPageInKinds_30 ?_
  exact im_fin rfl rfl
def xs_lu (a : Int32) (j : Nat) (J : (nh_N → Nat → Int32)) : (nh_N → Nat → Int32) := (if (J (xN j) 2) = a then (if (J (xN j) 3) ≤ 0 then J else (xf_append J (nI j)).2) else J)
def xl_lu (a : Int32) : Nat → Nat → (nh_N → Nat → Int32) → (nh_N → Nat → Int32)
  | 0, _, J => J
  | r + 1, j, J => xl_lu a r (j + 1) (xs_lu a j J)
set_option maxHeartbeats 4000000 in
set_option maxRecDepth 100000 in
theorem xw_lu {p : Program} {l : Launch} {e : Env} {s : State} {m : MethodId} {below : List Frame} {meth : Method} {c0 : Code} {A : Nat → Prop} {D : va_G} {cA : Nat → ClassId} {S : nh_N → Option nh_C} {g : nh_N → Nat} {R : nh_N → Nat → Option nh_N} {av : Array Value} {Q : State → Prop} (hx : p.tables.exec = Jvm.exec) (hb : c0.code = cX5_lineUpInsertsOf) (hml : c0.maxLocals = 4) (ht : ∀ w ∈ im_ws, w.before av s = true) (hown : s.vm.findClass qR5 = some m.cls) (hK : im_K D cA s) (a : Int32) {nk ni nc : Nat} {kd pl pn : Nat → Nat} {ow : Nat → Nat → Nat} (hsh : xSh S R nk ni nc kd pl pn ow)   : ∀ (r j : Nat) (J : (nh_N → Nat → Int32)) (H : Heap) (locs : List Loc) (ls : Array Slot), j + r = ni → (∀ t, t ≤ r → xHl ni (xl_lu a t j J)) → (∀ t, t < r → xOl (j + t) (xl_lu a t j J)) → nh_S D im_cl im_sk cA A s.heap S g J R H locs → lv_has ls 4 [(0, .ref (g xX)), (1, .int a), (2, .int (nI j))] → (∀ (H : Heap) (locs : List Loc) (ls : Array Slot), nh_S D im_cl im_sk cA A s.heap S g (xl_lu a r j J) R H locs → lv_has ls 4 [(0, .ref (g xX)), (1, .int a), (2, .int (nI ni))] → W p l e { frames := 2, cells := 0, slots := 0, locals := 43 } s m av below meth c0 H locs 0 0 Q (F0 m 49 ls [])) → W p l e { frames := 2, cells := 0, slots := 0, locals := 43 } s m av below meth c0 H locs 0 0 Q (F0 m 2 ls []) := by
  intro r
  induction r with
  | zero =>
    intro j J H locs ls hj hh hOK hw hl kk
    have hh0 : xHl ni J := hh 0 (by omega)
    have hX := hsh.X
    refine lv_iload_n hx hb dX5_lineUpInsertsOf_2 rfl (lv_at hl 2 rfl) ?_
    refine lv_aload_n hx hb dX5_lineUpInsertsOf_3 rfl (lv_at hl 0 rfl) ?_
    refine fg5 (v := .int (J xX 6)) hx hb ht hown hK hw hX.1 rfl 6 wf5_68 (by decide) (nh_vi rfl) dX5_lineUpInsertsOf_4 ?_
    refine lv_icmp_ge (tgt := 49) hx hb dX5_lineUpInsertsOf_7 (by decide) (fun c7 => ?_) (fun c7 => ?_)
    · exact kk _ _ ls hw (by have h9 := lv_sub hl [0, 1, 2] rfl; rw [show j = ni by omega] at h9; exact h9)
    · exact absurd (by rw [show J xX 6 = nI ni from hh0]; exact nI_le (by omega) (by have := hsh.ni2; omega)) c7
  | succ r ih =>
    intro j J H locs ls hj hh hOK hw hl kk
    have hh0 : xHl ni J := hh 0 (by omega)
    have hX := hsh.X
    have hok : xOl j J := hOK 0 (by omega)
    have hn8 := hsh.ni2
    obtain ⟨ln, hln, hl2⟩ := hok
    refine lv_iload_n hx hb dX5_lineUpInsertsOf_2 rfl (lv_at hl 2 rfl) ?_
    refine lv_aload_n hx hb dX5_lineUpInsertsOf_3 rfl (lv_at hl 0 rfl) ?_
    refine fg5 (v := .int (J xX 6)) hx hb ht hown hK hw hX.1 rfl 6 wf5_68 (by decide) (nh_vi rfl) dX5_lineUpInsertsOf_4 ?_
    refine lv_icmp_ge (tgt := 49) hx hb dX5_lineUpInsertsOf_7 (by decide) (fun c7 => ?_) (fun c7 => ?_)
    · exact absurd c7 (by rw [show J xX 6 = nI ni from hh0]; exact nI_ge (by omega) (by have := hsh.ni2; omega))
    · refine lv_aload_n hx hb dX5_lineUpInsertsOf_10 rfl (lv_at hl 0 rfl) ?_
      refine lv_iload_n hx hb dX5_lineUpInsertsOf_11 rfl (lv_at hl 2 rfl) ?_
      refine kcX5_insertAt (As := [.int (nI j)]) (rest := []) wm5_91 (cxf_insertAt l D cA hX (nI j) ni hsh.ni2 hsh.IA) hx hb hml ht hown hK hw hX.1 rfl rfl hl.1 rfl (by simp [Value.category]) ⟨by decide, by decide⟩ ⟨by simp, by simp⟩ dX5_lineUpInsertsOf_12 (fun v S1 g1 I1 R1 H locs hp hw => ?_)
      obtain ⟨rfl, h1, h2, h3, h4⟩ := hp
      rw [h1, h2, h3, h4] at hw
      clear h1 h2 h3 h4
      rw [show xat ni (nI j) = some j by rw [xat_nI (by omega), if_pos (by omega)]]
      have hn1 := hsh.N j (by omega)
      show W _ _ _ _ _ _ _ _ _ _ _ _ _ _ _ (F0 m 15 ls [.ref (g (xN j))])
      refine lv_astore_n (lv' := [(3, .ref (g (xN j))), (0, .ref (g xX)), (1, .int a), (2, .int (nI j))]) hx hb dX5_lineUpInsertsOf_15 rfl hl (by decide) rfl (fun ls hl => ?_)
      refine lv_aload_n hx hb dX5_lineUpInsertsOf_16 rfl (lv_at hl 0 rfl) ?_
      refine lv_ifnull hx hb dX5_lineUpInsertsOf_17 ?_
      refine lv_aload_n hx hb dX5_lineUpInsertsOf_20 rfl (lv_at hl 0 rfl) ?_
      refine fg0 (v := .int (J (xN j) 2)) hx hb ht hown hK hw hn1.1.1 rfl 2 wf5_183 (by decide) (nh_vi rfl) dX5_lineUpInsertsOf_21 ?_
      refine lv_iload_n hx hb dX5_lineUpInsertsOf_24 rfl (lv_at hl 2 rfl) ?_
      refine lv_icmp_ne (tgt := 43) hx hb dX5_lineUpInsertsOf_25 (by decide) (fun c25 => ?_) (fun c25 => ?_)
      · refine lv_iinc (v := (nI j) + 1) (lv' := [(2, .int ((nI j) + 1)), (3, .ref (g (xN j))), (0, .ref (g xX)), (1, .int a)]) hx hb dX5_lineUpInsertsOf_43 hl (k := 3) rfl rfl (by decide) rfl (fun ls hl => ?_)
        refine lv_goto (tgt := 2) hx hb dX5_lineUpInsertsOf_46 (by decide) ?_
        have h9 : lv_has ls 4 [(0, .ref (g xX)), (1, .int a), (2, .int ((nI j) + 1))] := lv_sub hl [2, 3, 0] rfl
        rw [nI_1] at h9
        have hstep : xs_lu a j J = J := by simp only [xs_lu, if_neg c25]
        exact ih (j + 1) _ _ _ ls (by omega) (fun t h0 => by have h7 := hh (t + 1) (by omega); rw [← hstep]; exact h7) (fun t h0 => by have h7 := hOK (t + 1) (by omega); rw [show j + (t + 1) = j + 1 + t by omega] at h7; rw [← hstep]; exact h7) hw h9 (by rw [← hstep]; exact kk)
      · refine lv_aload_n hx hb dX5_lineUpInsertsOf_28 rfl (lv_at hl 0 rfl) ?_
        refine fg0 (v := .int (J (xN j) 3)) hx hb ht hown hK hw hn1.1.1 rfl 3 wf5_102 (by decide) (nh_vi rfl) dX5_lineUpInsertsOf_29 ?_
        refine lv_if_le (tgt := 43) hx hb dX5_lineUpInsertsOf_32 (by decide) (fun c32 => ?_) (fun c32 => ?_)
        · refine lv_iinc (v := (nI j) + 1) (lv' := [(2, .int ((nI j) + 1)), (3, .ref (g (xN j))), (0, .ref (g xX)), (1, .int a)]) hx hb dX5_lineUpInsertsOf_43 hl (k := 3) rfl rfl (by decide) rfl (fun ls hl => ?_)
          refine lv_goto (tgt := 2) hx hb dX5_lineUpInsertsOf_46 (by decide) ?_
          have h9 : lv_has ls 4 [(0, .ref (g xX)), (1, .int a), (2, .int ((nI j) + 1))] := lv_sub hl [2, 3, 0] rfl
          rw [nI_1] at h9
          have hstep : xs_lu a j J = J := by simp only [xs_lu, if_pos c25, if_pos c32]
          exact ih (j + 1) _ _ _ ls (by omega) (fun t h0 => by have h7 := hh (t + 1) (by omega); rw [← hstep]; exact h7) (fun t h0 => by have h7 := hOK (t + 1) (by omega); rw [show j + (t + 1) = j + 1 + t by omega] at h7; rw [← hstep]; exact h7) hw h9 (by rw [← hstep]; exact kk)
        · refine lv_aload_n hx hb dX5_lineUpInsertsOf_35 rfl (lv_at hl 1 rfl) ?_
          refine fg5 (v := .ref (g xLN)) hx hb ht hown hK hw hX.1 rfl 4 wf5_30 (by decide) (nh_vr rfl hX.2.2.2.2.2.2.2.1) dX5_lineUpInsertsOf_36 ?_
          refine lv_iload_n hx hb dX5_lineUpInsertsOf_39 rfl (lv_at hl 3 rfl) ?_
          refine kcX2_append (As := [.int (nI j)]) (rest := []) wm5_180 (cxf_append l D cA hX.2.2.2.2.2.2.2.2 (nI j) ln hln hl2) hx hb hml ht hown hK hw hX.2.2.2.2.2.2.2.2.1 rfl rfl hl.1 rfl (by simp [Value.category]) ⟨by decide, by decide⟩ ⟨by simp, by simp⟩ dX5_lineUpInsertsOf_40 (fun v S1 g1 J1 R1 H locs hp hw => ?_)
          obtain ⟨rfl, h1, h2, eJ1, h4⟩ := hp
          rw [h1, h2, h4] at hw
          clear h1 h2 h4
          show W _ _ _ _ _ _ _ _ _ _ _ _ _ _ _ (F0 m 43 ls [])
          refine lv_iinc (v := (nI j) + 1) (lv' := [(2, .int ((nI j) + 1)), (3, .ref (g (xN j))), (0, .ref (g xX)), (1, .int a)]) hx hb dX5_lineUpInsertsOf_43 hl (k := 3) rfl rfl (by decide) rfl (fun ls hl => ?_)
          refine lv_goto (tgt := 2) hx hb dX5_lineUpInsertsOf_46 (by decide) ?_
          have h9 : lv_has ls 4 [(0, .ref (g xX)), (1, .int a), (2, .int ((nI j) + 1))] := lv_sub hl [2, 3, 0] rfl
          rw [nI_1] at h9
          subst eJ1
          have hstep : xs_lu a j J = (xf_append J (nI j)).2 := by simp only [xs_lu, if_pos c25, if_neg c32]
          exact ih (j + 1) _ _ _ ls (by omega) (fun t h0 => by have h7 := hh (t + 1) (by omega); rw [← hstep]; exact h7) (fun t h0 => by have h7 := hOK (t + 1) (by omega); rw [show j + (t + 1) = j + 1 + t by omega] at h7; rw [← hstep]; exact h7) hw h9 (by rw [← hstep]; exact kk)
theorem xap_x (J : nh_N → Nat → Int32) (a : Int32) (n : nh_N) (j : Nat) (h1 : n ≠ xLN) (h2 : n ≠ xLR) : (xf_append J a).2 n j = J n j := by
  unfold xf_append
  split <;> simp [iu_e, h1, h2]
theorem xap_l {J : nh_N → Nat → Int32} {a : Int32} {n : Nat} (h : J xLN 1 = nI n) (hn : n ≤ 200) : ∃ m, (xf_append J a).2 xLN 1 = nI m ∧ m ≤ 200 ∧ m ≤ n + 1 := by
  unfold xf_append
  by_cases hc : nI 200 ≤ J xLN 1
  · rw [if_pos hc]; exact ⟨n, h, hn, by omega⟩
  · rw [if_neg hc]
    refine ⟨n + 1, ?_, ?_, Nat.le_refl _⟩
    · simp [iu_e, h, nI_1]
    · rw [h] at hc
      rcases Nat.lt_or_ge n 200 with q | q
      · omega
      · exact absurd (nI_le q (by omega)) hc
theorem xlu_ok {ni : Nat} {a : Int32} : ∀ (t j : Nat) (J : nh_N → Nat → Int32), J xX 6 = nI ni → (∃ n, J xLN 1 = nI n ∧ n ≤ 200) → xHl ni (xl_lu a t j J) ∧ xOl 0 (xl_lu a t j J) := by
  intro t
  induction t with
  | zero => intro j J h h2; exact ⟨h, h2⟩
  | succ t ih =>
    intro j J h h2
    have hs : xs_lu a j J xX 6 = nI ni ∧ ∃ n, xs_lu a j J xLN 1 = nI n ∧ n ≤ 200 := by
      obtain ⟨n, hn, hn2⟩ := h2
      unfold xs_lu
      split
      · split
        · exact ⟨h, n, hn, hn2⟩
        · obtain ⟨m, hm, hm2, -⟩ := xap_l (a := nI j) hn hn2
          exact ⟨by rw [xap_x _ _ _ _ (by simp [xX, xKA, xIA, xPA, xLN, xLR, xK, xSO, xHM, xFT, xLT, xN, xP, xPP, xQ]) (by simp [xX, xKA, xIA, xPA, xLN, xLR, xK, xSO, xHM, xFT, xLT, xN, xP, xPP, xQ])]; exact h, m, hm, hm2⟩
      · exact ⟨h, n, hn, hn2⟩
    exact ih (j + 1) _ hs.1 hs.2
set_option maxHeartbeats 4000000 in
set_option maxRecDepth 100000 in
theorem cxf_lineUp (l : Launch) (D : va_G) (cA : Nat → ClassId) {S : nh_N → Option nh_C} {g : nh_N → Nat} {J : (nh_N → Nat → Int32)} {R : nh_N → Nat → Option nh_N}  {nk ni nc : Nat} {kd pl pn : Nat → Nat} {ow : Nat → Nat → Nat} (hsh : xSh S R nk ni nc kd pl pn ow) (a : Int32) (hi0 : J xX 6 = nI ni) (hl0 : ∃ n, J xLN 1 = nI n ∧ n ≤ 200) : im_M l D cA yX5_lineUpInsertsOf vX5_lineUpInsertsOf 2 43 0 0 [.ref (g xX), .int a] S g J R (im_eq none S g (xl_lu a ni 0 J) R) := by
  refine nh_of (cc := cX5_lineUpInsertsOf) (maxL := 4) (ret := none) (by decide) rfl (Nat.le_of_ble_eq_true rfl) ?_
  intro p e s m below meth c A ls hx hb hr hml hts hown hlocks hin hK hw hl
  have ht : ∀ w ∈ im_ws, w.before _ s = true := fun w h => hts w (List.mem_cons_of_mem _ h)
  have hl : lv_has ls 4 [(0, .ref (g xX)), (1, .int a)] := hl
  refine lv_iconst (v := 0) hx hb dX5_lineUpInsertsOf_0 (by decide) ?_
  refine lv_istore_n (lv' := [(2, .int 0), (0, .ref (g xX)), (1, .int a)]) hx hb dX5_lineUpInsertsOf_1 rfl hl (by decide) rfl (fun ls hl => ?_)
  refine xw_lu hx hb hml ht hown hK a hsh ni 0 J _ _ ls (by omega) (fun t _ => (xlu_ok t 0 J hi0 hl0).1) (fun t _ => (xlu_ok t 0 J hi0 hl0).2) hw (by rw [nI_0]; exact lv_sub hl [1, 2, 0] rfl) (fun H locs ls hw hl => ?_)
  have hl : lv_has ls 4 [(0, .ref (g xX)), (1, .int a), (2, .int (nI ni))] := hl
  refine nh_vret hx hb hr hlocks hw (Nat.zero_le _) (Nat.zero_le _) dX5_lineUpInsertsOf_49 ?_
  exact im_fin rfl rfl
