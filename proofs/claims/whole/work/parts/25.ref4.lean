def zgoOK (i : Nat) (J : nh_N → Nat → Int32) : Prop := ∃ k np nw, J (zA 7) i = nI k ∧ k < 8 ∧ J zM 18 = nI np ∧ np < 9000 ∧ (∀ q, q < np → ∃ i, i < 200 ∧ J (zA 20) q = nI i) ∧ J zM 25 = nI nw ∧ nw < 200
def zH1 (_ : nh_N → Nat → Int32) : Prop := True
def zO1 (_ : Nat) (_ : nh_N → Nat → Int32) : Prop := True
def zH2 (nb : Nat) (J : nh_N → Nat → Int32) : Prop := J zM 23 = nI nb
def zO2 (j : Nat) (J : nh_N → Nat → Int32) : Prop := ∃ i, J (zA 24) j = nI i ∧ i < 200 ∧ (¬ zf_waits J (nI i) = 0 → zgoOK i J)
def zH3 (ni : Nat) (J : nh_N → Nat → Int32) : Prop := J zM 6 = nI ni
def zO3 (mn j : Nat) (J : nh_N → Nat → Int32) : Prop := ¬ zf_waits J (nI j) = 0 → zf_isIn J mn (nI j) (nI mn) = 0 → zgoOK j J
def zH4 (nw : Nat) (J : nh_N → Nat → Int32) : Prop := J zM 25 = nI nw
def zs_cl1  (j : Nat) (J : (nh_N → Nat → Int32)) : (nh_N → Nat → Int32) := (if ((iu J (zA 27) (nI j).toNatClampNeg 0) (zA 4) (nI j).toNatClampNeg) = 0 then (iu (iu J (zA 27) (nI j).toNatClampNeg 0) (zA 5) (nI j).toNatClampNeg ((iu J (zA 27) (nI j).toNatClampNeg 0) (zA 5) (nI j).toNatClampNeg)) else (iu (iu J (zA 27) (nI j).toNatClampNeg 0) (zA 5) (nI j).toNatClampNeg 0))
def zl_cl1  : Nat → Nat → (nh_N → Nat → Int32) → (nh_N → Nat → Int32)
  | 0, _, J => J
  | r + 1, j, J => zl_cl1  r (j + 1) (zs_cl1  j J)
set_option maxHeartbeats 4000000 in
set_option maxRecDepth 100000 in
theorem zw_cl1 {p : Program} {l : Launch} {e : Env} {s : State} {m : MethodId} {below : List Frame} {meth : Method} {c : Code} {A : Nat → Prop} {D : va_G} {cA : Nat → ClassId} {S : nh_N → Option nh_C} {g : nh_N → Nat} {R : nh_N → Nat → Option nh_N} {av : Array Value} {Q : State → Prop} (hx : p.tables.exec = Jvm.exec) (hb : c.code = cX6_close) (hml : c.maxLocals = 4) (ht : ∀ w ∈ im_ws, w.before av s = true) (hown : s.vm.findClass qR6 = some m.cls) (hK : im_K D cA s) (hz : zSh S R)    : ∀ (r j : Nat) (J : (nh_N → Nat → Int32)) (H : Heap) (locs : List Loc) (ls : Array Slot), j + r = 8 → (∀ t, t ≤ r → zH1 (zl_cl1  t j J)) → (∀ t, t < r → zO1 (j + t) (zl_cl1  t j J)) → nh_S D im_cl im_sk cA A s.heap S g J R H locs → lv_has ls 4 [(0, .ref (g zM)), (1, .int (nI j))] → (∀ (H : Heap) (locs : List Loc) (ls : Array Slot), nh_S D im_cl im_sk cA A s.heap S g (zl_cl1  r j J) R H locs → lv_has ls 4 [(0, .ref (g zM)), (1, .int (nI 8))] → W p l e { frames := 2, cells := 0, slots := 0, locals := 53 } s m av below meth c H locs 0 0 Q (F0 m 58 ls [])) → W p l e { frames := 2, cells := 0, slots := 0, locals := 53 } s m av below meth c H locs 0 0 Q (F0 m 14 ls []) := by
  intro r
  induction r with
  | zero =>
    intro j J H locs ls hj hh hOK hw hl kk
    have hh0 : zH1 J := hh 0 (by omega)
    refine lv_iload_n hx hb dX6_close_14 rfl (lv_at hl 1 rfl) ?_
    refine lv_bipush (v := 8) hx hb dX6_close_15 (by decide) ?_
    refine lv_icmp_ge (tgt := 58) hx hb dX6_close_17 (by decide) (fun c17 => ?_) (fun c17 => ?_)
    · exact kk _ _ ls hw (by have h9 := lv_sub hl [0, 1] rfl; rw [show j = 8 by omega] at h9; exact h9)
    · exact absurd (by rw [show j = 8 by omega]; decide) c17
  | succ r ih =>
    intro j J H locs ls hj hh hOK hw hl kk
    have hh0 : zH1 J := hh 0 (by omega)
    have hok : zO1 j J := hOK 0 (by omega)
    have hj9 : vp_in (nI j) 8 := vp_in_nI (by omega) (by decide)
    refine lv_iload_n hx hb dX6_close_14 rfl (lv_at hl 1 rfl) ?_
    refine lv_bipush (v := 8) hx hb dX6_close_15 (by decide) ?_
    refine lv_icmp_ge (tgt := 58) hx hb dX6_close_17 (by decide) (fun c17 => ?_) (fun c17 => ?_)
    · exact absurd c17 (show ¬ nI 8 ≤ nI j from nI_ge (by omega) (by decide))
    · refine lv_aload_n hx hb dX6_close_20 rfl (lv_at hl 0 rfl) ?_
      refine fg6 hx hb ht hown hK hw (zs_m hz) rfl 27 wf6_68 (by decide) (nh_vr rfl (zr27 hz)) dX6_close_21 ?_
      refine lv_iload_n hx hb dX6_close_24 rfl (lv_at hl 1 rfl) ?_
      refine lv_iconst (v := 0) hx hb dX6_close_25 (by decide) ?_
      refine az_st hx hb hK hw (zs27 hz) rfl hj9 rfl dX6_close_26 (fun H locs J1 eJ1 hw => ?_)
      refine lv_aload_n hx hb dX6_close_27 rfl (lv_at hl 0 rfl) ?_
      refine fg6 hx hb ht hown hK hw (zs_m hz) rfl 5 wf6_20 (by decide) (nh_vr rfl (zr5 hz)) dX6_close_28 ?_
      refine lv_iload_n hx hb dX6_close_31 rfl (lv_at hl 1 rfl) ?_
      refine lv_aload_n hx hb dX6_close_32 rfl (lv_at hl 0 rfl) ?_
      refine fg6 hx hb ht hown hK hw (zs_m hz) rfl 4 wf6_16 (by decide) (nh_vr rfl (zr4 hz)) dX6_close_33 ?_
      refine lv_iload_n hx hb dX6_close_36 rfl (lv_at hl 1 rfl) ?_
      refine az_ld hx hb hK hw (zs4 hz) rfl hj9 dX6_close_37 ?_
      refine lv_if_eq (tgt := 45) hx hb dX6_close_38 (by decide) (fun c38 => ?_) (fun c38 => ?_)
      · refine lv_aload_n hx hb dX6_close_45 rfl (lv_at hl 0 rfl) ?_
        refine fg6 hx hb ht hown hK hw (zs_m hz) rfl 5 wf6_20 (by decide) (nh_vr rfl (zr5 hz)) dX6_close_46 ?_
        refine lv_iload_n hx hb dX6_close_49 rfl (lv_at hl 1 rfl) ?_
        refine ai_ld hx hb hK hw (zs5 hz) rfl hj9 dX6_close_50 ?_
        refine ai_st hx hb hK hw (zs5 hz) rfl hj9 dX6_close_51 (fun H locs J2 eJ2 hw => ?_)
        refine lv_iinc (v := (nI j) + 1) (lv' := [(1, .int ((nI j) + 1)), (0, .ref (g zM))]) hx hb dX6_close_52 hl (k := 1) rfl rfl (by decide) rfl (fun ls hl => ?_)
        refine lv_goto (tgt := 14) hx hb dX6_close_55 (by decide) ?_
        have h9 : lv_has ls 4 [(0, .ref (g zM)), (1, .int ((nI j) + 1))] := lv_sub hl [1, 0] rfl
        rw [nI_1] at h9
        subst eJ2
        subst eJ1
        have hstep : zs_cl1  j J = (iu (iu J (zA 27) (nI j).toNatClampNeg 0) (zA 5) (nI j).toNatClampNeg ((iu J (zA 27) (nI j).toNatClampNeg 0) (zA 5) (nI j).toNatClampNeg)) := by simp only [zs_cl1, if_pos c38]
        exact ih (j + 1) _ _ _ ls (by omega) (fun t h0 => by have h7 := hh (t + 1) (by omega); rw [← hstep]; exact h7) (fun t h0 => by have h7 := hOK (t + 1) (by omega); rw [show j + (t + 1) = j + 1 + t by omega] at h7; rw [← hstep]; exact h7) hw h9 (by rw [← hstep]; exact kk)
      · refine lv_iconst (v := 0) hx hb dX6_close_41 (by decide) ?_
        refine lv_goto (tgt := 51) hx hb dX6_close_42 (by decide) ?_
        refine ai_st hx hb hK hw (zs5 hz) rfl hj9 dX6_close_51 (fun H locs J3 eJ3 hw => ?_)
        refine lv_iinc (v := (nI j) + 1) (lv' := [(1, .int ((nI j) + 1)), (0, .ref (g zM))]) hx hb dX6_close_52 hl (k := 1) rfl rfl (by decide) rfl (fun ls hl => ?_)
        refine lv_goto (tgt := 14) hx hb dX6_close_55 (by decide) ?_
        have h9 : lv_has ls 4 [(0, .ref (g zM)), (1, .int ((nI j) + 1))] := lv_sub hl [1, 0] rfl
        rw [nI_1] at h9
        subst eJ3
        subst eJ1
        have hstep : zs_cl1  j J = (iu (iu J (zA 27) (nI j).toNatClampNeg 0) (zA 5) (nI j).toNatClampNeg 0) := by simp only [zs_cl1, if_neg c38]
        exact ih (j + 1) _ _ _ ls (by omega) (fun t h0 => by have h7 := hh (t + 1) (by omega); rw [← hstep]; exact h7) (fun t h0 => by have h7 := hOK (t + 1) (by omega); rw [show j + (t + 1) = j + 1 + t by omega] at h7; rw [← hstep]; exact h7) hw h9 (by rw [← hstep]; exact kk)
def zs_cl2  (j : Nat) (J : (nh_N → Nat → Int32)) : (nh_N → Nat → Int32) := (if (zf_waits J (J (zA 24) (nI j).toNatClampNeg)) = 0 then J else (zf_go J (J zM 18).toNatClampNeg (J (zA 24) (nI j).toNatClampNeg)).2)
def zl_cl2  : Nat → Nat → (nh_N → Nat → Int32) → (nh_N → Nat → Int32)
  | 0, _, J => J
  | r + 1, j, J => zl_cl2  r (j + 1) (zs_cl2  j J)
set_option maxHeartbeats 4000000 in
set_option maxRecDepth 100000 in
theorem zw_cl2 {p : Program} {l : Launch} {e : Env} {s : State} {m : MethodId} {below : List Frame} {meth : Method} {c : Code} {A : Nat → Prop} {D : va_G} {cA : Nat → ClassId} {S : nh_N → Option nh_C} {g : nh_N → Nat} {R : nh_N → Nat → Option nh_N} {av : Array Value} {Q : State → Prop} (hx : p.tables.exec = Jvm.exec) (hb : c.code = cX6_close) (hml : c.maxLocals = 4) (ht : ∀ w ∈ im_ws, w.before av s = true) (hown : s.vm.findClass qR6 = some m.cls) (hK : im_K D cA s) (hz : zSh S R)  (x1 : Int32) (nb : Nat) (hb2 : nb ≤ 200) : ∀ (r j : Nat) (J : (nh_N → Nat → Int32)) (H : Heap) (locs : List Loc) (ls : Array Slot), j + r = nb → (∀ t, t ≤ r → zH2 nb (zl_cl2  t j J)) → (∀ t, t < r → zO2 (j + t) (zl_cl2  t j J)) → nh_S D im_cl im_sk cA A s.heap S g J R H locs → lv_has ls 4 [(0, .ref (g zM)), (1, .int x1), (2, .int (nI j))] → (∀ (H : Heap) (locs : List Loc) (ls : Array Slot), nh_S D im_cl im_sk cA A s.heap S g (zl_cl2  r j J) R H locs → lv_has ls 4 [(0, .ref (g zM)), (1, .int x1), (2, .int (nI nb))] → W p l e { frames := 2, cells := 0, slots := 0, locals := 53 } s m av below meth c H locs 0 0 Q (F0 m 107 ls [])) → W p l e { frames := 2, cells := 0, slots := 0, locals := 53 } s m av below meth c H locs 0 0 Q (F0 m 70 ls []) := by
  intro r
  induction r with
  | zero =>
    intro j J H locs ls hj hh hOK hw hl kk
    have hh0 : zH2 nb J := hh 0 (by omega)
    refine lv_iload_n hx hb dX6_close_70 rfl (lv_at hl 2 rfl) ?_
    refine lv_aload_n hx hb dX6_close_71 rfl (lv_at hl 0 rfl) ?_
    refine fg6 (v := .int (J zM 23)) hx hb ht hown hK hw (zs_m hz) rfl 23 wf6_109 (by decide) (nh_vi rfl) dX6_close_72 ?_
    refine lv_icmp_ge (tgt := 107) hx hb dX6_close_75 (by decide) (fun c75 => ?_) (fun c75 => ?_)
    · exact kk _ _ ls hw (by have h9 := lv_sub hl [0, 1, 2] rfl; rw [show j = nb by omega] at h9; exact h9)
    · exact absurd (by rw [show J zM 23 = nI nb from hh0]; exact nI_le (by omega) (by omega)) c75
  | succ r ih =>
    intro j J H locs ls hj hh hOK hw hl kk
    have hh0 : zH2 nb J := hh 0 (by omega)
    have hok : zO2 j J := hOK 0 (by omega)
    have hj9 : vp_in (nI j) 200 := vp_in_nI (by omega) (by decide)
    obtain ⟨i, hi, hi2, hgo⟩ := hok
    refine lv_iload_n hx hb dX6_close_70 rfl (lv_at hl 2 rfl) ?_
    refine lv_aload_n hx hb dX6_close_71 rfl (lv_at hl 0 rfl) ?_
    refine fg6 (v := .int (J zM 23)) hx hb ht hown hK hw (zs_m hz) rfl 23 wf6_109 (by decide) (nh_vi rfl) dX6_close_72 ?_
    refine lv_icmp_ge (tgt := 107) hx hb dX6_close_75 (by decide) (fun c75 => ?_) (fun c75 => ?_)
    · exact absurd c75 (by rw [show J zM 23 = nI nb from hh0]; exact nI_ge (by omega) (by omega))
    · refine lv_aload_n hx hb dX6_close_78 rfl (lv_at hl 0 rfl) ?_
      refine lv_aload_n hx hb dX6_close_79 rfl (lv_at hl 0 rfl) ?_
      refine fg6 hx hb ht hown hK hw (zs_m hz) rfl 24 wf6_62 (by decide) (nh_vr rfl (zr24 hz)) dX6_close_80 ?_
      refine lv_iload_n hx hb dX6_close_83 rfl (lv_at hl 2 rfl) ?_
      refine ai_ld hx hb hK hw (zs24 hz) rfl hj9 dX6_close_84 ?_
      refine kcX6_waits (As := [.int (J (zA 24) (nI j).toNatClampNeg)]) (rest := []) wm6_112 (zc_waits l D cA hz (J (zA 24) (nI j).toNatClampNeg) i (by rw [nI_clamp (by omega)]; exact hi) hi2) hx hb hml ht hown hK hw (zs_m hz) rfl rfl hl.1 rfl (by simp [Value.category]) ⟨by decide, by decide⟩ ⟨by simp, by simp⟩ dX6_close_85 (fun v S1 g1 I1 R1 H locs hp hw => ?_)
      obtain ⟨rfl, h1, h2, h3, h4⟩ := hp
      rw [h1, h2, h3, h4] at hw
      clear h1 h2 h3 h4
      show W _ _ _ _ _ _ _ _ _ _ _ _ _ _ _ (F0 m 88 ls [.int (zf_waits J (J (zA 24) (nI j).toNatClampNeg))])
      refine lv_if_eq (tgt := 101) hx hb dX6_close_88 (by decide) (fun c88 => ?_) (fun c88 => ?_)
      · refine lv_iinc (v := (nI j) + 1) (lv' := [(2, .int ((nI j) + 1)), (0, .ref (g zM)), (1, .int x1)]) hx hb dX6_close_101 hl (k := 2) rfl rfl (by decide) rfl (fun ls hl => ?_)
        refine lv_goto (tgt := 70) hx hb dX6_close_104 (by decide) ?_
        have h9 : lv_has ls 4 [(0, .ref (g zM)), (1, .int x1), (2, .int ((nI j) + 1))] := lv_sub hl [1, 2, 0] rfl
        rw [nI_1] at h9
        have hstep : zs_cl2  j J = J := by simp only [zs_cl2, if_pos c88]
        exact ih (j + 1) _ _ _ ls (by omega) (fun t h0 => by have h7 := hh (t + 1) (by omega); rw [← hstep]; exact h7) (fun t h0 => by have h7 := hOK (t + 1) (by omega); rw [show j + (t + 1) = j + 1 + t by omega] at h7; rw [← hstep]; exact h7) hw h9 (by rw [← hstep]; exact kk)
      · obtain ⟨k, np, nw, hk, hk8, hnp0, hp90, hpi0, hnw, hw2⟩ := (hgo (by have h := c88; rw [nI_clamp (by omega), hi] at h; exact h))
        have enp : J zM 18 = nI (J zM 18).toNatClampNeg := by rw [hnp0, nI_clamp (by omega)]
        have hp9 : (J zM 18).toNatClampNeg < 9000 := by rw [hnp0, nI_clamp (by omega)]; exact hp90
        have hpi : ∀ q, q < (J zM 18).toNatClampNeg → ∃ i, i < 200 ∧ J (zA 20) q = nI i := by rw [hnp0, nI_clamp (by omega)]; exact hpi0
        refine lv_aload_n hx hb dX6_close_91 rfl (lv_at hl 0 rfl) ?_
        refine lv_aload_n hx hb dX6_close_92 rfl (lv_at hl 0 rfl) ?_
        refine fg6 hx hb ht hown hK hw (zs_m hz) rfl 24 wf6_62 (by decide) (nh_vr rfl (zr24 hz)) dX6_close_93 ?_
        refine lv_iload_n hx hb dX6_close_96 rfl (lv_at hl 2 rfl) ?_
        refine ai_ld hx hb hK hw (zs24 hz) rfl hj9 dX6_close_97 ?_
        refine kcX6_go (As := [.int (J (zA 24) (nI j).toNatClampNeg)]) (rest := []) wm6_115 (zc_go l D cA hz (J (zA 24) (nI j).toNatClampNeg) i (by rw [nI_clamp (by omega)]; exact hi) hi2 k hk hk8 (J zM 18).toNatClampNeg enp hp9 hpi nw hnw hw2) hx hb hml ht hown hK hw (zs_m hz) rfl rfl hl.1 rfl (by simp [Value.category]) ⟨by decide, by decide⟩ ⟨by simp, by simp⟩ dX6_close_98 (fun v S1 g1 J1 R1 H locs hp hw => ?_)
        obtain ⟨rfl, h1, h2, eJ1, h4⟩ := hp
        rw [h1, h2, h4] at hw
        clear h1 h2 h4
        show W _ _ _ _ _ _ _ _ _ _ _ _ _ _ _ (F0 m 101 ls [])
        refine lv_iinc (v := (nI j) + 1) (lv' := [(2, .int ((nI j) + 1)), (0, .ref (g zM)), (1, .int x1)]) hx hb dX6_close_101 hl (k := 2) rfl rfl (by decide) rfl (fun ls hl => ?_)
        refine lv_goto (tgt := 70) hx hb dX6_close_104 (by decide) ?_
        have h9 : lv_has ls 4 [(0, .ref (g zM)), (1, .int x1), (2, .int ((nI j) + 1))] := lv_sub hl [1, 2, 0] rfl
        rw [nI_1] at h9
        subst eJ1
        have hstep : zs_cl2  j J = (zf_go J (J zM 18).toNatClampNeg (J (zA 24) (nI j).toNatClampNeg)).2 := by simp only [zs_cl2, if_neg c88]
        exact ih (j + 1) _ _ _ ls (by omega) (fun t h0 => by have h7 := hh (t + 1) (by omega); rw [← hstep]; exact h7) (fun t h0 => by have h7 := hOK (t + 1) (by omega); rw [show j + (t + 1) = j + 1 + t by omega] at h7; rw [← hstep]; exact h7) hw h9 (by rw [← hstep]; exact kk)
def zs_cl3 (mn : Nat) (x2 : Int32) (j : Nat) (J : (nh_N → Nat → Int32)) : (nh_N → Nat → Int32) := (if (zf_waits J (nI j)) = 0 then J else (if (zf_isIn J mn (nI j) x2) = 0 then (zf_go J (J zM 18).toNatClampNeg (nI j)).2 else J))
def zl_cl3 (mn : Nat) (x2 : Int32) : Nat → Nat → (nh_N → Nat → Int32) → (nh_N → Nat → Int32)
  | 0, _, J => J
  | r + 1, j, J => zl_cl3 mn x2 r (j + 1) (zs_cl3 mn x2 j J)
set_option maxHeartbeats 4000000 in
set_option maxRecDepth 100000 in
theorem zw_cl3 {p : Program} {l : Launch} {e : Env} {s : State} {m : MethodId} {below : List Frame} {meth : Method} {c : Code} {A : Nat → Prop} {D : va_G} {cA : Nat → ClassId} {S : nh_N → Option nh_C} {g : nh_N → Nat} {R : nh_N → Nat → Option nh_N} {av : Array Value} {Q : State → Prop} (hx : p.tables.exec = Jvm.exec) (hb : c.code = cX6_close) (hml : c.maxLocals = 4) (ht : ∀ w ∈ im_ws, w.before av s = true) (hown : s.vm.findClass qR6 = some m.cls) (hK : im_K D cA s) (hz : zSh S R) (mn : Nat) (x2 : Int32) (x1 : Int32) (hmn : x2 = nI mn) (hm2 : mn ≤ 200) (ni : Nat) (hi2 : ni ≤ 200) : ∀ (r j : Nat) (J : (nh_N → Nat → Int32)) (H : Heap) (locs : List Loc) (ls : Array Slot), j + r = ni → (∀ t, t ≤ r → zH3 ni (zl_cl3 mn x2 t j J)) → (∀ t, t < r → zO3 mn (j + t) (zl_cl3 mn x2 t j J)) → nh_S D im_cl im_sk cA A s.heap S g J R H locs → lv_has ls 4 [(0, .ref (g zM)), (1, .int x1), (2, .int x2), (3, .int (nI j))] → (∀ (H : Heap) (locs : List Loc) (ls : Array Slot), nh_S D im_cl im_sk cA A s.heap S g (zl_cl3 mn x2 r j J) R H locs → lv_has ls 4 [(0, .ref (g zM)), (1, .int x1), (2, .int x2), (3, .int (nI ni))] → W p l e { frames := 2, cells := 0, slots := 0, locals := 53 } s m av below meth c H locs 0 0 Q (F0 m 150 ls [])) → W p l e { frames := 2, cells := 0, slots := 0, locals := 53 } s m av below meth c H locs 0 0 Q (F0 m 114 ls []) := by
  intro r
  induction r with
  | zero =>
    intro j J H locs ls hj hh hOK hw hl kk
    have hh0 : zH3 ni J := hh 0 (by omega)
    refine lv_iload_n hx hb dX6_close_114 rfl (lv_at hl 3 rfl) ?_
    refine lv_aload_n hx hb dX6_close_115 rfl (lv_at hl 0 rfl) ?_
    refine fg6 (v := .int (J zM 6)) hx hb ht hown hK hw (zs_m hz) rfl 6 wf6_89 (by decide) (nh_vi rfl) dX6_close_116 ?_
    refine lv_icmp_ge (tgt := 150) hx hb dX6_close_119 (by decide) (fun c119 => ?_) (fun c119 => ?_)
    · exact kk _ _ ls hw (by have h9 := lv_sub hl [0, 1, 2, 3] rfl; rw [show j = ni by omega] at h9; exact h9)
    · exact absurd (by rw [show J zM 6 = nI ni from hh0]; exact nI_le (by omega) (by omega)) c119
  | succ r ih =>
    intro j J H locs ls hj hh hOK hw hl kk
    have hh0 : zH3 ni J := hh 0 (by omega)
    have hok : zO3 mn j J := hOK 0 (by omega)
    refine lv_iload_n hx hb dX6_close_114 rfl (lv_at hl 3 rfl) ?_
    refine lv_aload_n hx hb dX6_close_115 rfl (lv_at hl 0 rfl) ?_
    refine fg6 (v := .int (J zM 6)) hx hb ht hown hK hw (zs_m hz) rfl 6 wf6_89 (by decide) (nh_vi rfl) dX6_close_116 ?_
    refine lv_icmp_ge (tgt := 150) hx hb dX6_close_119 (by decide) (fun c119 => ?_) (fun c119 => ?_)
    · exact absurd c119 (by rw [show J zM 6 = nI ni from hh0]; exact nI_ge (by omega) (by omega))
    · refine lv_aload_n hx hb dX6_close_122 rfl (lv_at hl 0 rfl) ?_
      refine lv_iload_n hx hb dX6_close_123 rfl (lv_at hl 3 rfl) ?_
      refine kcX6_waits (As := [.int (nI j)]) (rest := []) wm6_112 (zc_waits l D cA hz (nI j) j rfl (by omega)) hx hb hml ht hown hK hw (zs_m hz) rfl rfl hl.1 rfl (by simp [Value.category]) ⟨by decide, by decide⟩ ⟨by simp, by simp⟩ dX6_close_124 (fun v S1 g1 I1 R1 H locs hp hw => ?_)
      obtain ⟨rfl, h1, h2, h3, h4⟩ := hp
      rw [h1, h2, h3, h4] at hw
      clear h1 h2 h3 h4
      show W _ _ _ _ _ _ _ _ _ _ _ _ _ _ _ (F0 m 127 ls [.int (zf_waits J (nI j))])
      refine lv_if_eq (tgt := 144) hx hb dX6_close_127 (by decide) (fun c127 => ?_) (fun c127 => ?_)
      · refine lv_iinc (v := (nI j) + 1) (lv' := [(3, .int ((nI j) + 1)), (0, .ref (g zM)), (1, .int x1), (2, .int x2)]) hx hb dX6_close_144 hl (k := 3) rfl rfl (by decide) rfl (fun ls hl => ?_)
        refine lv_goto (tgt := 114) hx hb dX6_close_147 (by decide) ?_
        have h9 : lv_has ls 4 [(0, .ref (g zM)), (1, .int x1), (2, .int x2), (3, .int ((nI j) + 1))] := lv_sub hl [1, 2, 3, 0] rfl
        rw [nI_1] at h9
        have hstep : zs_cl3 mn x2 j J = J := by simp only [zs_cl3, if_pos c127]
        exact ih (j + 1) _ _ _ ls (by omega) (fun t h0 => by have h7 := hh (t + 1) (by omega); rw [← hstep]; exact h7) (fun t h0 => by have h7 := hOK (t + 1) (by omega); rw [show j + (t + 1) = j + 1 + t by omega] at h7; rw [← hstep]; exact h7) hw h9 (by rw [← hstep]; exact kk)
      · refine lv_aload_n hx hb dX6_close_130 rfl (lv_at hl 0 rfl) ?_
        refine lv_iload_n hx hb dX6_close_131 rfl (lv_at hl 3 rfl) ?_
        refine lv_iload_n hx hb dX6_close_132 rfl (lv_at hl 2 rfl) ?_
        refine kcX6_isIn (As := [.int (nI j), .int x2]) (rest := []) wm6_119 (zc_isIn l D cA hz (nI j) x2 mn hmn hm2) hx hb hml ht hown hK hw (zs_m hz) rfl rfl hl.1 rfl (by simp [Value.category]) ⟨by decide, by decide⟩ ⟨by simp, by simp⟩ dX6_close_133 (fun v S1 g1 I1 R1 H locs hp hw => ?_)
        obtain ⟨rfl, h1, h2, h3, h4⟩ := hp
        rw [h1, h2, h3, h4] at hw
        clear h1 h2 h3 h4
        show W _ _ _ _ _ _ _ _ _ _ _ _ _ _ _ (F0 m 136 ls [.int (zf_isIn J mn (nI j) x2)])
        refine lv_if_ne (tgt := 144) hx hb dX6_close_136 (by decide) (fun c136 => ?_) (fun c136 => ?_)
        · refine lv_iinc (v := (nI j) + 1) (lv' := [(3, .int ((nI j) + 1)), (0, .ref (g zM)), (1, .int x1), (2, .int x2)]) hx hb dX6_close_144 hl (k := 3) rfl rfl (by decide) rfl (fun ls hl => ?_)
          refine lv_goto (tgt := 114) hx hb dX6_close_147 (by decide) ?_
          have h9 : lv_has ls 4 [(0, .ref (g zM)), (1, .int x1), (2, .int x2), (3, .int ((nI j) + 1))] := lv_sub hl [1, 2, 3, 0] rfl
          rw [nI_1] at h9
          have hstep : zs_cl3 mn x2 j J = J := by simp only [zs_cl3, if_neg c127, if_neg c136]
          exact ih (j + 1) _ _ _ ls (by omega) (fun t h0 => by have h7 := hh (t + 1) (by omega); rw [← hstep]; exact h7) (fun t h0 => by have h7 := hOK (t + 1) (by omega); rw [show j + (t + 1) = j + 1 + t by omega] at h7; rw [← hstep]; exact h7) hw h9 (by rw [← hstep]; exact kk)
        · obtain ⟨k, np, nw, hk, hk8, hnp0, hp90, hpi0, hnw, hw2⟩ := (hok c127 (by rw [hmn] at c136; exact c136))
          have enp : J zM 18 = nI (J zM 18).toNatClampNeg := by rw [hnp0, nI_clamp (by omega)]
          have hp9 : (J zM 18).toNatClampNeg < 9000 := by rw [hnp0, nI_clamp (by omega)]; exact hp90
          have hpi : ∀ q, q < (J zM 18).toNatClampNeg → ∃ i, i < 200 ∧ J (zA 20) q = nI i := by rw [hnp0, nI_clamp (by omega)]; exact hpi0
          refine lv_aload_n hx hb dX6_close_139 rfl (lv_at hl 0 rfl) ?_
          refine lv_iload_n hx hb dX6_close_140 rfl (lv_at hl 3 rfl) ?_
          refine kcX6_go (As := [.int (nI j)]) (rest := []) wm6_115 (zc_go l D cA hz (nI j) j rfl (by omega) k hk hk8 (J zM 18).toNatClampNeg enp hp9 hpi nw hnw hw2) hx hb hml ht hown hK hw (zs_m hz) rfl rfl hl.1 rfl (by simp [Value.category]) ⟨by decide, by decide⟩ ⟨by simp, by simp⟩ dX6_close_141 (fun v S1 g1 J1 R1 H locs hp hw => ?_)
          obtain ⟨rfl, h1, h2, eJ1, h4⟩ := hp
          rw [h1, h2, h4] at hw
          clear h1 h2 h4
          show W _ _ _ _ _ _ _ _ _ _ _ _ _ _ _ (F0 m 144 ls [])
          refine lv_iinc (v := (nI j) + 1) (lv' := [(3, .int ((nI j) + 1)), (0, .ref (g zM)), (1, .int x1), (2, .int x2)]) hx hb dX6_close_144 hl (k := 3) rfl rfl (by decide) rfl (fun ls hl => ?_)
          refine lv_goto (tgt := 114) hx hb dX6_close_147 (by decide) ?_
          have h9 : lv_has ls 4 [(0, .ref (g zM)), (1, .int x1), (2, .int x2), (3, .int ((nI j) + 1))] := lv_sub hl [1, 2, 3, 0] rfl
          rw [nI_1] at h9
          subst eJ1
          have hstep : zs_cl3 mn x2 j J = (zf_go J (J zM 18).toNatClampNeg (nI j)).2 := by simp only [zs_cl3, if_neg c127, if_pos c136]
          exact ih (j + 1) _ _ _ ls (by omega) (fun t h0 => by have h7 := hh (t + 1) (by omega); rw [← hstep]; exact h7) (fun t h0 => by have h7 := hOK (t + 1) (by omega); rw [show j + (t + 1) = j + 1 + t by omega] at h7; rw [← hstep]; exact h7) hw h9 (by rw [← hstep]; exact kk)
def zs_cl4  (j : Nat) (J : (nh_N → Nat → Int32)) : (nh_N → Nat → Int32) := (iu J (zA 24) (nI j).toNatClampNeg (J (zA 26) (nI j).toNatClampNeg))
def zl_cl4  : Nat → Nat → (nh_N → Nat → Int32) → (nh_N → Nat → Int32)
  | 0, _, J => J
  | r + 1, j, J => zl_cl4  r (j + 1) (zs_cl4  j J)
set_option maxHeartbeats 4000000 in
set_option maxRecDepth 100000 in
theorem zw_cl4 {p : Program} {l : Launch} {e : Env} {s : State} {m : MethodId} {below : List Frame} {meth : Method} {c : Code} {A : Nat → Prop} {D : va_G} {cA : Nat → ClassId} {S : nh_N → Option nh_C} {g : nh_N → Nat} {R : nh_N → Nat → Option nh_N} {av : Array Value} {Q : State → Prop} (hx : p.tables.exec = Jvm.exec) (hb : c.code = cX6_close) (hml : c.maxLocals = 4) (ht : ∀ w ∈ im_ws, w.before av s = true) (hown : s.vm.findClass qR6 = some m.cls) (hK : im_K D cA s) (hz : zSh S R)  (x1 : Int32) (x2 : Int32) (nw : Nat) (hw2 : nw ≤ 200) : ∀ (r j : Nat) (J : (nh_N → Nat → Int32)) (H : Heap) (locs : List Loc) (ls : Array Slot), j + r = nw → (∀ t, t ≤ r → zH4 nw (zl_cl4  t j J)) → (∀ t, t < r → zO1 (j + t) (zl_cl4  t j J)) → nh_S D im_cl im_sk cA A s.heap S g J R H locs → lv_has ls 4 [(0, .ref (g zM)), (1, .int x1), (2, .int x2), (3, .int (nI j))] → (∀ (H : Heap) (locs : List Loc) (ls : Array Slot), nh_S D im_cl im_sk cA A s.heap S g (zl_cl4  r j J) R H locs → lv_has ls 4 [(0, .ref (g zM)), (1, .int x1), (2, .int x2), (3, .int (nI nw))] → W p l e { frames := 2, cells := 0, slots := 0, locals := 53 } s m av below meth c H locs 0 0 Q (F0 m 186 ls [])) → W p l e { frames := 2, cells := 0, slots := 0, locals := 53 } s m av below meth c H locs 0 0 Q (F0 m 160 ls []) := by
  intro r
  induction r with
  | zero =>
    intro j J H locs ls hj hh hOK hw hl kk
    have hh0 : zH4 nw J := hh 0 (by omega)
    refine lv_iload_n hx hb dX6_close_160 rfl (lv_at hl 3 rfl) ?_
    refine lv_aload_n hx hb dX6_close_161 rfl (lv_at hl 0 rfl) ?_
    refine fg6 (v := .int (J zM 25)) hx hb ht hown hK hw (zs_m hz) rfl 25 wf6_98 (by decide) (nh_vi rfl) dX6_close_162 ?_
    refine lv_icmp_ge (tgt := 186) hx hb dX6_close_165 (by decide) (fun c165 => ?_) (fun c165 => ?_)
    · exact kk _ _ ls hw (by have h9 := lv_sub hl [0, 1, 2, 3] rfl; rw [show j = nw by omega] at h9; exact h9)
    · exact absurd (by rw [show J zM 25 = nI nw from hh0]; exact nI_le (by omega) (by omega)) c165
  | succ r ih =>
    intro j J H locs ls hj hh hOK hw hl kk
    have hh0 : zH4 nw J := hh 0 (by omega)
    have hok : zO1 j J := hOK 0 (by omega)
    have hj9 : vp_in (nI j) 200 := vp_in_nI (by omega) (by decide)
    refine lv_iload_n hx hb dX6_close_160 rfl (lv_at hl 3 rfl) ?_
    refine lv_aload_n hx hb dX6_close_161 rfl (lv_at hl 0 rfl) ?_
    refine fg6 (v := .int (J zM 25)) hx hb ht hown hK hw (zs_m hz) rfl 25 wf6_98 (by decide) (nh_vi rfl) dX6_close_162 ?_
    refine lv_icmp_ge (tgt := 186) hx hb dX6_close_165 (by decide) (fun c165 => ?_) (fun c165 => ?_)
    · exact absurd c165 (by rw [show J zM 25 = nI nw from hh0]; exact nI_ge (by omega) (by omega))
    · refine lv_aload_n hx hb dX6_close_168 rfl (lv_at hl 0 rfl) ?_
      refine fg6 hx hb ht hown hK hw (zs_m hz) rfl 24 wf6_62 (by decide) (nh_vr rfl (zr24 hz)) dX6_close_169 ?_
      refine lv_iload_n hx hb dX6_close_172 rfl (lv_at hl 3 rfl) ?_
      refine lv_aload_n hx hb dX6_close_173 rfl (lv_at hl 0 rfl) ?_
      refine fg6 hx hb ht hown hK hw (zs_m hz) rfl 26 wf6_65 (by decide) (nh_vr rfl (zr26 hz)) dX6_close_174 ?_
      refine lv_iload_n hx hb dX6_close_177 rfl (lv_at hl 3 rfl) ?_
      refine ai_ld hx hb hK hw (zs26 hz) rfl hj9 dX6_close_178 ?_
      refine ai_st hx hb hK hw (zs24 hz) rfl hj9 dX6_close_179 (fun H locs J1 eJ1 hw => ?_)
      refine lv_iinc (v := (nI j) + 1) (lv' := [(3, .int ((nI j) + 1)), (0, .ref (g zM)), (1, .int x1), (2, .int x2)]) hx hb dX6_close_180 hl (k := 3) rfl rfl (by decide) rfl (fun ls hl => ?_)
      refine lv_goto (tgt := 160) hx hb dX6_close_183 (by decide) ?_
      have h9 : lv_has ls 4 [(0, .ref (g zM)), (1, .int x1), (2, .int x2), (3, .int ((nI j) + 1))] := lv_sub hl [1, 2, 3, 0] rfl
      rw [nI_1] at h9
      subst eJ1
      have hstep : zs_cl4  j J = (iu J (zA 24) (nI j).toNatClampNeg (J (zA 26) (nI j).toNatClampNeg)) := by rfl
      exact ih (j + 1) _ _ _ ls (by omega) (fun t h0 => by have h7 := hh (t + 1) (by omega); rw [← hstep]; exact h7) (fun t h0 => by have h7 := hOK (t + 1) (by omega); rw [show j + (t + 1) = j + 1 + t by omega] at h7; rw [← hstep]; exact h7) hw h9 (by rw [← hstep]; exact kk)
