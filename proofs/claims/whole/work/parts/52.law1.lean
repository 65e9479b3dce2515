/-! THE CLAIM OUT OF ONE WALK OF THE LAW'S BODY. Your part is whole_start (and what it stands on); all else here is the same for every law, but numbers. -/
def R_law : String := "InsertMarksLaw"
def lw_P (b : Addr) (xs : List Int32) (args : Array Value) (s : State) : Prop := args = #[.ref b] ∧ s.IntsAt b xs ∧ xs.length ≤ 2049 ∧ (Jvm.Cond.and given_1 narrow_1).before args s = true
def lw_Q (_ : Array Value) (s : State) (o : Outcome) (t : State) : Prop := o = .returned (some (.int 1)) ∧ Framed s o t [] 600000 7302250
def lw_Z (below : List Frame) (a : Array Value) (s : State) : State → Prop := fun t => ∃ o, t.status = .running ∧ Ended t below o ∧ lw_Q a s o t
/-- the law's own end, with 1 on the stack, nothing written that was there before, its room as the claim has it -/
theorem lw_ret {p : Program} {l : Launch} {e : Env} {s : State} {m : MethodId} {below : List Frame} {meth : Method} {c : Code} {b : Nat} (hx : p.tables.exec = Jvm.exec) (hb : c.code = code) (hr : meth.sig.returnType = ret) (hlocks : meth.locks = false) {pc : Nat} {H : Heap} {ls : Array Slot} (hdg : decode code pc = .ok (.ireturn, 1)) : W p l e room_1 s m #[Value.ref b] below meth c H [] 600000 7302250 (lw_Z below #[Value.ref b] s) (F0 m pc ls [.int 1]) := by
  intro T hT X
  obtain ⟨fs, hret, hrun, hended, hW, hframe⟩ := X.leave (v := some (.int 1)) (hlocks := hlocks) (fun h => by rw [hr] at h; cases h)
  have hmeth' : T.vm.method? m = some meth := X.method'
  refine ⟨T.setFrames fs, ?_, .returned (some (.int 1)), hrun, hended, rfl, ⟨_, rfl⟩, hW, hframe⟩
  jvm_step X.here [X.here.top, hx, hb, hdg, hmeth', hr, ret, narrow_b1]
  (try refine ⟨rfl, ?_⟩); (try refine ⟨rfl, ?_⟩)
  first | (intro acts; rw [hret _ acts rfl rfl rfl]) | rw [hret _ _ rfl rfl rfl]
  exact Steps.refl _
/-- what holds at the law's entry: the machine, the code, the tables' words (any of lw_tbl by 'hts w (by decide +kernel)'), the script of L ints xs at the cell b, what the Statement gives of the start (any of its parts by flat_of_before) -/
def lw_At (p : Program) (s : State) (m : MethodId) (meth : Method) (c : Code) (b L : Nat) (xs : Nat → Int32) : Prop :=
  p.tables.exec = Jvm.exec ∧ c.code = code ∧ meth.sig.returnType = ret ∧ c.maxLocals = 4 ∧ s.vm.findClass R_law = some m.cls ∧ (∀ w ∈ lw_tbl, w.before #[Value.ref b] s = true) ∧ va_X b L xs s s.heap ∧ b < s.heap.size ∧ meth.locks = false ∧ (Jvm.Cond.and given_1 narrow_1).before #[Value.ref b] s = true
set_option maxHeartbeats 8000000 in
set_option maxRecDepth 100000 in
theorem law_loop {p : Program} {l : Launch} {e : Env} {s : State} {m : MethodId} {below : List Frame} {meth : Method} {c : Code} {D : va_G} {cA : Nat → ClassId} {b Ln : Nat} {xs : Nat → Int32} (hL : Ln ≤ 2049) (C0 : lw_At p s m meth c b Ln xs) (hK : im_K D cA s) {aX aM : Nat} (Sim : Nat → xSt2) (h_cls : ∀ (a b1 d : Int32), (d = 0 ∨ d = 1) → lwOp l D cA Sim yX5_cls vX5_cls 2 35 yX6_cls vX6_cls 1 22 [.int a, .int b1, .int d]) (h_insert : ∀ (a b1 d : Int32), lwOp l D cA Sim yX5_insert vX5_insert 2 43 yX6_insert vX6_insert 2 43 [.int a, .int b1, .int d]) (h_mark : ∀ (a b1 d : Int32), lwOp l D cA Sim yX5_mark vX5_mark 2 43 yX6_mark vX6_mark 2 43 [.int a, .int b1, .int d]) (h_close : lwOp l D cA Sim yX5_close vX5_close 6 136 yX6_close vX6_close 2 53 []) (h_flush : lwOp l D cA Sim yX5_flush vX5_flush 6 136 yX6_flush vX6_flush 3 76 []) (h_cancel : ∀ (a : Int32), lwOp l D cA Sim yX5_cancel vX5_cancel 2 43 yX6_cancel vX6_cancel 1 22 [.int a]) (h_placed : ∀ (a b1 d : Int32), lwOp l D cA Sim yX5_placed vX5_placed 3 63 yX6_placed vX6_placed 1 24 [.int a, .int b1, .int d]) (h_about : ∀ (a b1 : Int32), lwOp l D cA Sim yX5_about vX5_about 2 43 yX6_about vX6_about 1 22 [.int a, .int b1]) (h_held : ∀ (a : Int32), lwOp l D cA Sim yX5_held vX5_held 2 43 yX6_held vX6_held 1 24 [.int a]) (h_used : ∀ (a b1 : Int32), lwOp l D cA Sim yX5_used vX5_used 3 63 yX6_used vX6_used 2 43 [.int a, .int b1]) (h_seen : ∀ (a b1 d : Int32), lwOp l D cA Sim yX5_seen vX5_seen 2 44 yX6_seen vX6_seen 2 49 [.int a, .int b1, .int d]) (h_count : ∀ (a : Int32), lwOp l D cA Sim yX5_count vX5_count 0 0 yX6_count vX6_count 1 24 [.int a]) :
    ∀ (n t nc : Nat) (S : nh_N → Option nh_C) (g : nh_N → Nat) (I : nh_N → Nat → Int32) (R : nh_N → Nat → Option nh_N) (S2 : nh_N → Option nh_C) (g2 : nh_N → Nat) (J : nh_N → Nat → Int32) (R2 : nh_N → Nat → Option nh_N) (H : Heap) (locs : List Loc) (ls : Array Slot), Ln + 1 ≤ 1 + 4 * t + n → 4 * t ≤ Ln + 3 → nc ≤ 40 → Sim nc S g I R S2 g2 J R2 → S xX = some (0, 5) → S2 zM = some (0, 6) → g xX = aX → g2 zM = aM → nh_S D im_cl im_sk cA (fun q : Nat => s.heap.size ≤ q) s.heap S g I R H locs → nh_S D im_cl im_sk cA (fun q : Nat => s.heap.size ≤ q) s.heap S2 g2 J R2 H locs → xap2 S g S2 g2 → lv_has ls 4 [(0, .ref b), (1, .ref aX), (2, .ref aM), (3, .int (nI (1 + 4 * t)))] → W p l e room_1 s m #[Value.ref b] below meth c H locs (30 + 5 * t + 202 * nc) (39100 + 169 * t + 804 * nc) (lw_Z below #[Value.ref b] s) (F0 m 28 ls []) := by
  obtain ⟨hx, hb, hr, hml, hown0, hts, hX, hbl, hlocks, hgv⟩ := C0
  have hown : s.vm.findClass "InsertMarksLaw" = some m.cls := hown0
  have ht : ∀ w ∈ im_ws, w.before #[Value.ref b] s = true := fun w h => hts w (im_good h).1
  have hbA : ¬ (fun q : Nat => s.heap.size ≤ q) b := Nat.not_le.mpr hbl
  have hrc : room_1.cells = 600000 := rfl
  have hrs : room_1.slots = 7302250 := rfl
  intro n
  induction n with
  | zero =>
    intro t nc S g I R S2 g2 J R2 H locs ls h1 h2 hnc hSim hX1 hM1 hgX hgM hw1 hw2 hap hl
    refine lv_iload_n hx hb dL_law_28 rfl (lv_at hl 3 rfl) ?_
    refine lv_aload_n hx hb dL_law_29 rfl (lv_at hl 0 rfl) ?_
    refine va_slen hx hb hX hbl hbA hw1.2.2.1 dL_law_30 ?_
    refine lv_iconst (v := 4) hx hb dL_law_31 (by decide) ?_
    refine lv_isub hx hb dL_law_32 ?_
    refine lv_icmp_gt (tgt := 502) hx hb dL_law_33 (by decide) (fun c33 => ?_) (fun c33 => ?_)
    · refine lv_iconst (v := 1) hx hb dL_law_502 (by decide) ?_
      refine va_forget (fun q hq => hw1.2.2.1.2.2 q hq) ?_
      refine W.widen (k := 600000) (n := 7302250) (by omega) (by omega) ?_
      exact lw_ret hx hb hr hlocks dL_law_503
    · exfalso
      have h3 : ¬ (Int32.ofNat Ln - 4).toInt < (nI (1 + 4 * t)).toInt := fun q => c33 (Int32.lt_iff_toInt_lt.mpr q)
      rw [nI_toInt (by omega), show (Int32.ofNat Ln - 4).toInt = (Ln : Int) - 4 from pk_sub_toInt (a := Ln) (b := 4) (by omega) (by omega)] at h3
      omega
  | succ n ih =>
    intro t nc S g I R S2 g2 J R2 H locs ls h1 h2 hnc hSim hX1 hM1 hgX hgM hw1 hw2 hap hl
    refine lv_iload_n hx hb dL_law_28 rfl (lv_at hl 3 rfl) ?_
    refine lv_aload_n hx hb dL_law_29 rfl (lv_at hl 0 rfl) ?_
    refine va_slen hx hb hX hbl hbA hw1.2.2.1 dL_law_30 ?_
    refine lv_iconst (v := 4) hx hb dL_law_31 (by decide) ?_
    refine lv_isub hx hb dL_law_32 ?_
    refine lv_icmp_gt (tgt := 502) hx hb dL_law_33 (by decide) (fun c33 => ?_) (fun c33 => ?_)
    · refine lv_iconst (v := 1) hx hb dL_law_502 (by decide) ?_
      refine va_forget (fun q hq => hw1.2.2.1.2.2 q hq) ?_
      refine W.widen (k := 600000) (n := 7302250) (by omega) (by omega) ?_
      exact lw_ret hx hb hr hlocks dL_law_503
    · have hpL : 1 + 4 * t + 4 ≤ Ln := by
        have h1 : ¬ (Int32.ofNat Ln - 4).toInt < (nI (1 + 4 * t)).toInt := fun q => c33 (Int32.lt_iff_toInt_lt.mpr q)
        rw [nI_toInt (by omega), show (Int32.ofNat Ln - 4).toInt = (Ln : Int) - 4 from pk_sub_toInt (a := Ln) (b := 4) (by omega) (by omega)] at h1
        omega
      have hq0 : vp_in (nI (1 + 4 * t)) Ln := vp_in_nI (by omega) (by omega)
      have hq1 : vp_in ((nI (1 + 4 * t)) + 1) Ln := ix_of (1 + 4 * t + 1) (nI_add _ 1) (by omega) (by omega)
      have hq2 : vp_in ((nI (1 + 4 * t)) + 2) Ln := ix_of (1 + 4 * t + 2) (nI_add _ 2) (by omega) (by omega)
      have hq3 : vp_in ((nI (1 + 4 * t)) + 3) Ln := ix_of (1 + 4 * t + 3) (nI_add _ 3) (by omega) (by omega)
      refine lv_aload_n hx hb dL_law_36 rfl (lv_at hl 0 rfl) ?_
      refine lv_iload_n hx hb dL_law_37 rfl (lv_at hl 3 rfl) ?_
      refine va_sld hx hb hX hbl hbA hw1.2.2.1 hq0 dL_law_38 ?_
      refine lv_bipush (v := 15) hx hb dL_law_39 (by decide) ?_
      refine lv_iand hx hb dL_law_41 ?_
      by_cases c42_0 : ((xs (nI (1 + 4 * t)).toNatClampNeg) &&& 15) = 0
      · refine lv_tableIn (tgt := 104) hx hb dL_law_42 (by rw [c42_0]; decide) (by rw [c42_0]; decide) (by rw [c42_0]; rfl) (by decide) ?_
        refine lv_aload_n hx hb dL_law_104 rfl (lv_at hl 1 rfl) ?_
        refine lv_aload_n hx hb dL_law_105 rfl (lv_at hl 0 rfl) ?_
        refine lv_iload_n hx hb dL_law_106 rfl (lv_at hl 3 rfl) ?_
        refine lv_iconst (v := 1) hx hb dL_law_107 (by decide) ?_
        refine lv_iadd hx hb dL_law_108 ?_
        refine va_sld hx hb hX hbl hbA hw1.2.2.1 hq1 dL_law_109 ?_
        refine lv_aload_n hx hb dL_law_110 rfl (lv_at hl 0 rfl) ?_
        refine lv_iload_n hx hb dL_law_111 rfl (lv_at hl 3 rfl) ?_
        refine lv_iconst (v := 2) hx hb dL_law_112 (by decide) ?_
        refine lv_iadd hx hb dL_law_113 ?_
        refine va_sld hx hb hX hbl hbA hw1.2.2.1 hq2 dL_law_114 ?_
        refine lv_aload_n hx hb dL_law_115 rfl (lv_at hl 0 rfl) ?_
        refine lv_iload_n hx hb dL_law_116 rfl (lv_at hl 3 rfl) ?_
        refine lv_iconst (v := 3) hx hb dL_law_117 (by decide) ?_
        refine lv_iadd hx hb dL_law_118 ?_
        refine va_sld hx hb hX hbl hbA hw1.2.2.1 hq3 dL_law_119 ?_
        refine lv_if_eq (tgt := 127) hx hb dL_law_120 (by decide) (fun c120 => ?_) (fun c120 => ?_)
        · refine lv_iconst (v := 0) hx hb dL_law_127 (by decide) ?_
          obtain ⟨nc1, mc, ms, ans, p5, p6, hn1, hn2, hmc, hms, hM5, hM6, hp5, hp6, hSm⟩ := h_cls (xs ((nI (1 + 4 * t)) + 1).toNatClampNeg) (xs ((nI (1 + 4 * t)) + 2).toNatClampNeg) 0 (by simp) nc S g I R S2 g2 J R2 hSim
          rw [hgX] at hM5
          rw [hgM] at hM6
          refine kcX5_cls_2 (As := [.int (xs ((nI (1 + 4 * t)) + 1).toNatClampNeg), .int (xs ((nI (1 + 4 * t)) + 2).toNatClampNeg), .int 0]) (rest := []) wm7_21 hM5 hx hb hml ht hown hK hw1 hX1 hgX rfl hl.1 rfl (by simp) ⟨by decide, by decide⟩ ⟨by rw [hrc]; omega, by rw [hrs]; omega⟩ dL_law_128 (fun v S' g' I' R' H1 locs1 hq5 hw1' hfr hA => ?_)
          obtain ⟨rfl, hg5, hx5⟩ := hp5 _ _ _ _ _ hq5
          obtain ⟨hw2', hd'⟩ := two_keep hw2 hap hw1' hfr hA
          show W _ _ _ _ _ _ _ _ _ _ _ _ _ _ _ (F0 m 131 ls [.int ans])
          refine lv_aload_n hx hb dL_law_131 rfl (lv_at hl 2 rfl) ?_
          refine lv_aload_n hx hb dL_law_132 rfl (lv_at hl 0 rfl) ?_
          refine lv_iload_n hx hb dL_law_133 rfl (lv_at hl 3 rfl) ?_
          refine lv_iconst (v := 1) hx hb dL_law_134 (by decide) ?_
          refine lv_iadd hx hb dL_law_135 ?_
          refine va_sld hx hb hX hbl hbA hw1'.2.2.1 hq1 dL_law_136 ?_
          refine lv_aload_n hx hb dL_law_137 rfl (lv_at hl 0 rfl) ?_
          refine lv_iload_n hx hb dL_law_138 rfl (lv_at hl 3 rfl) ?_
          refine lv_iconst (v := 2) hx hb dL_law_139 (by decide) ?_
          refine lv_iadd hx hb dL_law_140 ?_
          refine va_sld hx hb hX hbl hbA hw1'.2.2.1 hq2 dL_law_141 ?_
          refine lv_aload_n hx hb dL_law_142 rfl (lv_at hl 0 rfl) ?_
          refine lv_iload_n hx hb dL_law_143 rfl (lv_at hl 3 rfl) ?_
          refine lv_iconst (v := 3) hx hb dL_law_144 (by decide) ?_
          refine lv_iadd hx hb dL_law_145 ?_
          refine va_sld hx hb hX hbl hbA hw1'.2.2.1 hq3 dL_law_146 ?_
          refine lv_if_eq (tgt := 154) hx hb dL_law_147 (by decide) (fun c147 => ?_) (fun c147 => absurd c120 c147)
          refine lv_iconst (v := 0) hx hb dL_law_154 (by decide) ?_
          refine kcX6_cls_2 (As := [.int (xs ((nI (1 + 4 * t)) + 1).toNatClampNeg), .int (xs ((nI (1 + 4 * t)) + 2).toNatClampNeg), .int 0]) (rest := [.int ans]) wm7_25 hM6 hx hb hml ht hown hK hw2' hM1 hgM rfl hl.1 rfl (by simp [Value.category]) ⟨by decide, by decide⟩ ⟨by rw [hrc]; omega, by rw [hrs]; omega⟩ dL_law_155 (fun v2 S2' g2' J' R2' H2 locs2 hq6 hw2' hfr2 hA2 => ?_)
          obtain ⟨rfl, hg6, hx6⟩ := hp6 _ _ _ _ _ hq6
          obtain ⟨hw1', hd2⟩ := two_keep hw1' (xap2_sym hd') hw2' hfr2 hA2
          have hS9 := hSm _ _ _ _ _ _ _ _ _ _ hq5 hq6
          show W _ _ _ _ _ _ _ _ _ _ _ _ _ _ _ (F0 m 158 ls [.int ans, .int ans])
          refine lv_icmp_eq (tgt := 496) hx hb dL_law_158 (by decide) (fun c158 => ?_) (fun c158 => absurd rfl c158)
          refine lv_iinc (v := (nI (1 + 4 * t)) + 4) (lv' := [(3, .int ((nI (1 + 4 * t)) + 4)), (0, .ref b), (1, .ref aX), (2, .ref aM)]) hx hb dL_law_496 hl (k := 3) rfl rfl (by decide) rfl (fun ls hl => ?_)
          refine lv_goto (tgt := 28) hx hb dL_law_499 (by decide) ?_
          have h9 := lv_sub hl [1, 2, 3, 0] rfl
          rw [show (nI (1 + 4 * t)) + 4 = nI (1 + 4 * (t + 1)) from nI_add (1 + 4 * t) 4] at h9
          refine W.widen (k := 30 + 5 * (t + 1) + 202 * nc1) (n := 39100 + 169 * (t + 1) + 804 * nc1) (by omega) (by omega) ?_
          exact ih (t + 1) nc1 _ _ _ _ _ _ _ _ _ _ ls (by omega) (by omega) hn2 hS9 hx5 hx6 (hg5.trans hgX) (hg6.trans hgM) hw1' hw2' (xap2_sym hd2) h9
        · refine lv_iconst (v := 1) hx hb dL_law_123 (by decide) ?_
          refine lv_goto (tgt := 128) hx hb dL_law_124 (by decide) ?_
          obtain ⟨nc1, mc, ms, ans, p5, p6, hn1, hn2, hmc, hms, hM5, hM6, hp5, hp6, hSm⟩ := h_cls (xs ((nI (1 + 4 * t)) + 1).toNatClampNeg) (xs ((nI (1 + 4 * t)) + 2).toNatClampNeg) 1 (by simp) nc S g I R S2 g2 J R2 hSim
          rw [hgX] at hM5
          rw [hgM] at hM6
          refine kcX5_cls_2 (As := [.int (xs ((nI (1 + 4 * t)) + 1).toNatClampNeg), .int (xs ((nI (1 + 4 * t)) + 2).toNatClampNeg), .int 1]) (rest := []) wm7_21 hM5 hx hb hml ht hown hK hw1 hX1 hgX rfl hl.1 rfl (by simp) ⟨by decide, by decide⟩ ⟨by rw [hrc]; omega, by rw [hrs]; omega⟩ dL_law_128 (fun v S' g' I' R' H1 locs1 hq5 hw1' hfr hA => ?_)
          obtain ⟨rfl, hg5, hx5⟩ := hp5 _ _ _ _ _ hq5
          obtain ⟨hw2', hd'⟩ := two_keep hw2 hap hw1' hfr hA
          show W _ _ _ _ _ _ _ _ _ _ _ _ _ _ _ (F0 m 131 ls [.int ans])
          refine lv_aload_n hx hb dL_law_131 rfl (lv_at hl 2 rfl) ?_
          refine lv_aload_n hx hb dL_law_132 rfl (lv_at hl 0 rfl) ?_
          refine lv_iload_n hx hb dL_law_133 rfl (lv_at hl 3 rfl) ?_
          refine lv_iconst (v := 1) hx hb dL_law_134 (by decide) ?_
          refine lv_iadd hx hb dL_law_135 ?_
          refine va_sld hx hb hX hbl hbA hw1'.2.2.1 hq1 dL_law_136 ?_
          refine lv_aload_n hx hb dL_law_137 rfl (lv_at hl 0 rfl) ?_
          refine lv_iload_n hx hb dL_law_138 rfl (lv_at hl 3 rfl) ?_
          refine lv_iconst (v := 2) hx hb dL_law_139 (by decide) ?_
          refine lv_iadd hx hb dL_law_140 ?_
          refine va_sld hx hb hX hbl hbA hw1'.2.2.1 hq2 dL_law_141 ?_
          refine lv_aload_n hx hb dL_law_142 rfl (lv_at hl 0 rfl) ?_
          refine lv_iload_n hx hb dL_law_143 rfl (lv_at hl 3 rfl) ?_
          refine lv_iconst (v := 3) hx hb dL_law_144 (by decide) ?_
          refine lv_iadd hx hb dL_law_145 ?_
          refine va_sld hx hb hX hbl hbA hw1'.2.2.1 hq3 dL_law_146 ?_
          refine lv_if_eq (tgt := 154) hx hb dL_law_147 (by decide) (fun c147 => absurd c147 c120) (fun c147 => ?_)
          refine lv_iconst (v := 1) hx hb dL_law_150 (by decide) ?_
          refine lv_goto (tgt := 155) hx hb dL_law_151 (by decide) ?_
          refine kcX6_cls_2 (As := [.int (xs ((nI (1 + 4 * t)) + 1).toNatClampNeg), .int (xs ((nI (1 + 4 * t)) + 2).toNatClampNeg), .int 1]) (rest := [.int ans]) wm7_25 hM6 hx hb hml ht hown hK hw2' hM1 hgM rfl hl.1 rfl (by simp [Value.category]) ⟨by decide, by decide⟩ ⟨by rw [hrc]; omega, by rw [hrs]; omega⟩ dL_law_155 (fun v2 S2' g2' J' R2' H2 locs2 hq6 hw2' hfr2 hA2 => ?_)
          obtain ⟨rfl, hg6, hx6⟩ := hp6 _ _ _ _ _ hq6
          obtain ⟨hw1', hd2⟩ := two_keep hw1' (xap2_sym hd') hw2' hfr2 hA2
          have hS9 := hSm _ _ _ _ _ _ _ _ _ _ hq5 hq6
          show W _ _ _ _ _ _ _ _ _ _ _ _ _ _ _ (F0 m 158 ls [.int ans, .int ans])
          refine lv_icmp_eq (tgt := 496) hx hb dL_law_158 (by decide) (fun c158 => ?_) (fun c158 => absurd rfl c158)
          refine lv_iinc (v := (nI (1 + 4 * t)) + 4) (lv' := [(3, .int ((nI (1 + 4 * t)) + 4)), (0, .ref b), (1, .ref aX), (2, .ref aM)]) hx hb dL_law_496 hl (k := 3) rfl rfl (by decide) rfl (fun ls hl => ?_)
          refine lv_goto (tgt := 28) hx hb dL_law_499 (by decide) ?_
          have h9 := lv_sub hl [1, 2, 3, 0] rfl
          rw [show (nI (1 + 4 * t)) + 4 = nI (1 + 4 * (t + 1)) from nI_add (1 + 4 * t) 4] at h9
          refine W.widen (k := 30 + 5 * (t + 1) + 202 * nc1) (n := 39100 + 169 * (t + 1) + 804 * nc1) (by omega) (by omega) ?_
          exact ih (t + 1) nc1 _ _ _ _ _ _ _ _ _ _ ls (by omega) (by omega) hn2 hS9 hx5 hx6 (hg5.trans hgX) (hg6.trans hgM) hw1' hw2' (xap2_sym hd2) h9
      by_cases c42_1 : ((xs (nI (1 + 4 * t)).toNatClampNeg) &&& 15) = 1
      · refine lv_tableIn (tgt := 163) hx hb dL_law_42 (by rw [c42_1]; decide) (by rw [c42_1]; decide) (by rw [c42_1]; rfl) (by decide) ?_
        refine lv_aload_n hx hb dL_law_163 rfl (lv_at hl 1 rfl) ?_
        refine lv_aload_n hx hb dL_law_164 rfl (lv_at hl 0 rfl) ?_
        refine lv_iload_n hx hb dL_law_165 rfl (lv_at hl 3 rfl) ?_
        refine lv_iconst (v := 1) hx hb dL_law_166 (by decide) ?_
        refine lv_iadd hx hb dL_law_167 ?_
        refine va_sld hx hb hX hbl hbA hw1.2.2.1 hq1 dL_law_168 ?_
        refine lv_aload_n hx hb dL_law_169 rfl (lv_at hl 0 rfl) ?_
        refine lv_iload_n hx hb dL_law_170 rfl (lv_at hl 3 rfl) ?_
        refine lv_iconst (v := 2) hx hb dL_law_171 (by decide) ?_
        refine lv_iadd hx hb dL_law_172 ?_
        refine va_sld hx hb hX hbl hbA hw1.2.2.1 hq2 dL_law_173 ?_
        refine lv_aload_n hx hb dL_law_174 rfl (lv_at hl 0 rfl) ?_
        refine lv_iload_n hx hb dL_law_175 rfl (lv_at hl 3 rfl) ?_
        refine lv_iconst (v := 3) hx hb dL_law_176 (by decide) ?_
        refine lv_iadd hx hb dL_law_177 ?_
        refine va_sld hx hb hX hbl hbA hw1.2.2.1 hq3 dL_law_178 ?_
        obtain ⟨nc1, mc, ms, ans, p5, p6, hn1, hn2, hmc, hms, hM5, hM6, hp5, hp6, hSm⟩ := h_insert (xs ((nI (1 + 4 * t)) + 1).toNatClampNeg) (xs ((nI (1 + 4 * t)) + 2).toNatClampNeg) (xs ((nI (1 + 4 * t)) + 3).toNatClampNeg) nc S g I R S2 g2 J R2 hSim
        rw [hgX] at hM5
        rw [hgM] at hM6
        refine kcX5_insert_2 (As := [.int (xs ((nI (1 + 4 * t)) + 1).toNatClampNeg), .int (xs ((nI (1 + 4 * t)) + 2).toNatClampNeg), .int (xs ((nI (1 + 4 * t)) + 3).toNatClampNeg)]) (rest := []) wm7_26 hM5 hx hb hml ht hown hK hw1 hX1 hgX rfl hl.1 rfl (by simp) ⟨by decide, by decide⟩ ⟨by rw [hrc]; omega, by rw [hrs]; omega⟩ dL_law_179 (fun v S' g' I' R' H1 locs1 hq5 hw1' hfr hA => ?_)
        obtain ⟨rfl, hg5, hx5⟩ := hp5 _ _ _ _ _ hq5
        obtain ⟨hw2', hd'⟩ := two_keep hw2 hap hw1' hfr hA
        show W _ _ _ _ _ _ _ _ _ _ _ _ _ _ _ (F0 m 182 ls [.int ans])
        refine lv_aload_n hx hb dL_law_182 rfl (lv_at hl 2 rfl) ?_
        refine lv_aload_n hx hb dL_law_183 rfl (lv_at hl 0 rfl) ?_
        refine lv_iload_n hx hb dL_law_184 rfl (lv_at hl 3 rfl) ?_
        refine lv_iconst (v := 1) hx hb dL_law_185 (by decide) ?_
        refine lv_iadd hx hb dL_law_186 ?_
        refine va_sld hx hb hX hbl hbA hw1'.2.2.1 hq1 dL_law_187 ?_
        refine lv_aload_n hx hb dL_law_188 rfl (lv_at hl 0 rfl) ?_
        refine lv_iload_n hx hb dL_law_189 rfl (lv_at hl 3 rfl) ?_
        refine lv_iconst (v := 2) hx hb dL_law_190 (by decide) ?_
        refine lv_iadd hx hb dL_law_191 ?_
        refine va_sld hx hb hX hbl hbA hw1'.2.2.1 hq2 dL_law_192 ?_
        refine lv_aload_n hx hb dL_law_193 rfl (lv_at hl 0 rfl) ?_
        refine lv_iload_n hx hb dL_law_194 rfl (lv_at hl 3 rfl) ?_
        refine lv_iconst (v := 3) hx hb dL_law_195 (by decide) ?_
        refine lv_iadd hx hb dL_law_196 ?_
        refine va_sld hx hb hX hbl hbA hw1'.2.2.1 hq3 dL_law_197 ?_
        refine kcX6_insert_2 (As := [.int (xs ((nI (1 + 4 * t)) + 1).toNatClampNeg), .int (xs ((nI (1 + 4 * t)) + 2).toNatClampNeg), .int (xs ((nI (1 + 4 * t)) + 3).toNatClampNeg)]) (rest := [.int ans]) wm7_30 hM6 hx hb hml ht hown hK hw2' hM1 hgM rfl hl.1 rfl (by simp [Value.category]) ⟨by decide, by decide⟩ ⟨by rw [hrc]; omega, by rw [hrs]; omega⟩ dL_law_198 (fun v2 S2' g2' J' R2' H2 locs2 hq6 hw2' hfr2 hA2 => ?_)
        obtain ⟨rfl, hg6, hx6⟩ := hp6 _ _ _ _ _ hq6
        obtain ⟨hw1', hd2⟩ := two_keep hw1' (xap2_sym hd') hw2' hfr2 hA2
        have hS9 := hSm _ _ _ _ _ _ _ _ _ _ hq5 hq6
        show W _ _ _ _ _ _ _ _ _ _ _ _ _ _ _ (F0 m 201 ls [.int ans, .int ans])
        refine lv_icmp_eq (tgt := 496) hx hb dL_law_201 (by decide) (fun c201 => ?_) (fun c201 => absurd rfl c201)
        refine lv_iinc (v := (nI (1 + 4 * t)) + 4) (lv' := [(3, .int ((nI (1 + 4 * t)) + 4)), (0, .ref b), (1, .ref aX), (2, .ref aM)]) hx hb dL_law_496 hl (k := 3) rfl rfl (by decide) rfl (fun ls hl => ?_)
        refine lv_goto (tgt := 28) hx hb dL_law_499 (by decide) ?_
        have h9 := lv_sub hl [1, 2, 3, 0] rfl
        rw [show (nI (1 + 4 * t)) + 4 = nI (1 + 4 * (t + 1)) from nI_add (1 + 4 * t) 4] at h9
        refine W.widen (k := 30 + 5 * (t + 1) + 202 * nc1) (n := 39100 + 169 * (t + 1) + 804 * nc1) (by omega) (by omega) ?_
        exact ih (t + 1) nc1 _ _ _ _ _ _ _ _ _ _ ls (by omega) (by omega) hn2 hS9 hx5 hx6 (hg5.trans hgX) (hg6.trans hgM) hw1' hw2' (xap2_sym hd2) h9
      by_cases c42_2 : ((xs (nI (1 + 4 * t)).toNatClampNeg) &&& 15) = 2
      · refine lv_tableIn (tgt := 206) hx hb dL_law_42 (by rw [c42_2]; decide) (by rw [c42_2]; decide) (by rw [c42_2]; rfl) (by decide) ?_
        refine lv_aload_n hx hb dL_law_206 rfl (lv_at hl 1 rfl) ?_
        refine lv_aload_n hx hb dL_law_207 rfl (lv_at hl 0 rfl) ?_
        refine lv_iload_n hx hb dL_law_208 rfl (lv_at hl 3 rfl) ?_
        refine lv_iconst (v := 1) hx hb dL_law_209 (by decide) ?_
        refine lv_iadd hx hb dL_law_210 ?_
        refine va_sld hx hb hX hbl hbA hw1.2.2.1 hq1 dL_law_211 ?_
        refine lv_aload_n hx hb dL_law_212 rfl (lv_at hl 0 rfl) ?_
        refine lv_iload_n hx hb dL_law_213 rfl (lv_at hl 3 rfl) ?_
        refine lv_iconst (v := 2) hx hb dL_law_214 (by decide) ?_
        refine lv_iadd hx hb dL_law_215 ?_
        refine va_sld hx hb hX hbl hbA hw1.2.2.1 hq2 dL_law_216 ?_
        refine lv_aload_n hx hb dL_law_217 rfl (lv_at hl 0 rfl) ?_
        refine lv_iload_n hx hb dL_law_218 rfl (lv_at hl 3 rfl) ?_
        refine lv_iconst (v := 3) hx hb dL_law_219 (by decide) ?_
        refine lv_iadd hx hb dL_law_220 ?_
        refine va_sld hx hb hX hbl hbA hw1.2.2.1 hq3 dL_law_221 ?_
        obtain ⟨nc1, mc, ms, ans, p5, p6, hn1, hn2, hmc, hms, hM5, hM6, hp5, hp6, hSm⟩ := h_mark (xs ((nI (1 + 4 * t)) + 1).toNatClampNeg) (xs ((nI (1 + 4 * t)) + 2).toNatClampNeg) (xs ((nI (1 + 4 * t)) + 3).toNatClampNeg) nc S g I R S2 g2 J R2 hSim
        rw [hgX] at hM5
        rw [hgM] at hM6
        refine kcX5_mark_2 (As := [.int (xs ((nI (1 + 4 * t)) + 1).toNatClampNeg), .int (xs ((nI (1 + 4 * t)) + 2).toNatClampNeg), .int (xs ((nI (1 + 4 * t)) + 3).toNatClampNeg)]) (rest := []) wm7_31 hM5 hx hb hml ht hown hK hw1 hX1 hgX rfl hl.1 rfl (by simp) ⟨by decide, by decide⟩ ⟨by rw [hrc]; omega, by rw [hrs]; omega⟩ dL_law_222 (fun v S' g' I' R' H1 locs1 hq5 hw1' hfr hA => ?_)
        obtain ⟨rfl, hg5, hx5⟩ := hp5 _ _ _ _ _ hq5
        obtain ⟨hw2', hd'⟩ := two_keep hw2 hap hw1' hfr hA
        show W _ _ _ _ _ _ _ _ _ _ _ _ _ _ _ (F0 m 225 ls [.int ans])
        refine lv_aload_n hx hb dL_law_225 rfl (lv_at hl 2 rfl) ?_
        refine lv_aload_n hx hb dL_law_226 rfl (lv_at hl 0 rfl) ?_
        refine lv_iload_n hx hb dL_law_227 rfl (lv_at hl 3 rfl) ?_
        refine lv_iconst (v := 1) hx hb dL_law_228 (by decide) ?_
        refine lv_iadd hx hb dL_law_229 ?_
        refine va_sld hx hb hX hbl hbA hw1'.2.2.1 hq1 dL_law_230 ?_
        refine lv_aload_n hx hb dL_law_231 rfl (lv_at hl 0 rfl) ?_
        refine lv_iload_n hx hb dL_law_232 rfl (lv_at hl 3 rfl) ?_
        refine lv_iconst (v := 2) hx hb dL_law_233 (by decide) ?_
        refine lv_iadd hx hb dL_law_234 ?_
        refine va_sld hx hb hX hbl hbA hw1'.2.2.1 hq2 dL_law_235 ?_
        refine lv_aload_n hx hb dL_law_236 rfl (lv_at hl 0 rfl) ?_
        refine lv_iload_n hx hb dL_law_237 rfl (lv_at hl 3 rfl) ?_
        refine lv_iconst (v := 3) hx hb dL_law_238 (by decide) ?_
        refine lv_iadd hx hb dL_law_239 ?_
        refine va_sld hx hb hX hbl hbA hw1'.2.2.1 hq3 dL_law_240 ?_
        refine kcX6_mark_2 (As := [.int (xs ((nI (1 + 4 * t)) + 1).toNatClampNeg), .int (xs ((nI (1 + 4 * t)) + 2).toNatClampNeg), .int (xs ((nI (1 + 4 * t)) + 3).toNatClampNeg)]) (rest := [.int ans]) wm7_34 hM6 hx hb hml ht hown hK hw2' hM1 hgM rfl hl.1 rfl (by simp [Value.category]) ⟨by decide, by decide⟩ ⟨by rw [hrc]; omega, by rw [hrs]; omega⟩ dL_law_241 (fun v2 S2' g2' J' R2' H2 locs2 hq6 hw2' hfr2 hA2 => ?_)
        obtain ⟨rfl, hg6, hx6⟩ := hp6 _ _ _ _ _ hq6
        obtain ⟨hw1', hd2⟩ := two_keep hw1' (xap2_sym hd') hw2' hfr2 hA2
        have hS9 := hSm _ _ _ _ _ _ _ _ _ _ hq5 hq6
        show W _ _ _ _ _ _ _ _ _ _ _ _ _ _ _ (F0 m 244 ls [.int ans, .int ans])
        refine lv_icmp_eq (tgt := 496) hx hb dL_law_244 (by decide) (fun c244 => ?_) (fun c244 => absurd rfl c244)
        refine lv_iinc (v := (nI (1 + 4 * t)) + 4) (lv' := [(3, .int ((nI (1 + 4 * t)) + 4)), (0, .ref b), (1, .ref aX), (2, .ref aM)]) hx hb dL_law_496 hl (k := 3) rfl rfl (by decide) rfl (fun ls hl => ?_)
        refine lv_goto (tgt := 28) hx hb dL_law_499 (by decide) ?_
        have h9 := lv_sub hl [1, 2, 3, 0] rfl
        rw [show (nI (1 + 4 * t)) + 4 = nI (1 + 4 * (t + 1)) from nI_add (1 + 4 * t) 4] at h9
        refine W.widen (k := 30 + 5 * (t + 1) + 202 * nc1) (n := 39100 + 169 * (t + 1) + 804 * nc1) (by omega) (by omega) ?_
        exact ih (t + 1) nc1 _ _ _ _ _ _ _ _ _ _ ls (by omega) (by omega) hn2 hS9 hx5 hx6 (hg5.trans hgX) (hg6.trans hgM) hw1' hw2' (xap2_sym hd2) h9
      by_cases c42_3 : ((xs (nI (1 + 4 * t)).toNatClampNeg) &&& 15) = 3
      · refine lv_tableIn (tgt := 249) hx hb dL_law_42 (by rw [c42_3]; decide) (by rw [c42_3]; decide) (by rw [c42_3]; rfl) (by decide) ?_
        refine lv_aload_n hx hb dL_law_249 rfl (lv_at hl 1 rfl) ?_
        obtain ⟨nc1, mc, ms, ans, p5, p6, hn1, hn2, hmc, hms, hM5, hM6, hp5, hp6, hSm⟩ := h_close  nc S g I R S2 g2 J R2 hSim
        rw [hgX] at hM5
        rw [hgM] at hM6
        refine kcX5_close_2 (As := []) (rest := []) wm7_35 hM5 hx hb hml ht hown hK hw1 hX1 hgX rfl hl.1 rfl (by simp) ⟨by decide, by decide⟩ ⟨by rw [hrc]; omega, by rw [hrs]; omega⟩ dL_law_250 (fun v S' g' I' R' H1 locs1 hq5 hw1' hfr hA => ?_)
        obtain ⟨rfl, hg5, hx5⟩ := hp5 _ _ _ _ _ hq5
        obtain ⟨hw2', hd'⟩ := two_keep hw2 hap hw1' hfr hA
        show W _ _ _ _ _ _ _ _ _ _ _ _ _ _ _ (F0 m 253 ls [.int ans])
        refine lv_aload_n hx hb dL_law_253 rfl (lv_at hl 2 rfl) ?_
        refine kcX6_close_2 (As := []) (rest := [.int ans]) wm7_39 hM6 hx hb hml ht hown hK hw2' hM1 hgM rfl hl.1 rfl (by simp [Value.category]) ⟨by decide, by decide⟩ ⟨by rw [hrc]; omega, by rw [hrs]; omega⟩ dL_law_254 (fun v2 S2' g2' J' R2' H2 locs2 hq6 hw2' hfr2 hA2 => ?_)
        obtain ⟨rfl, hg6, hx6⟩ := hp6 _ _ _ _ _ hq6
        obtain ⟨hw1', hd2⟩ := two_keep hw1' (xap2_sym hd') hw2' hfr2 hA2
        have hS9 := hSm _ _ _ _ _ _ _ _ _ _ hq5 hq6
        show W _ _ _ _ _ _ _ _ _ _ _ _ _ _ _ (F0 m 257 ls [.int ans, .int ans])
        refine lv_icmp_eq (tgt := 496) hx hb dL_law_257 (by decide) (fun c257 => ?_) (fun c257 => absurd rfl c257)
        refine lv_iinc (v := (nI (1 + 4 * t)) + 4) (lv' := [(3, .int ((nI (1 + 4 * t)) + 4)), (0, .ref b), (1, .ref aX), (2, .ref aM)]) hx hb dL_law_496 hl (k := 3) rfl rfl (by decide) rfl (fun ls hl => ?_)
        refine lv_goto (tgt := 28) hx hb dL_law_499 (by decide) ?_
        have h9 := lv_sub hl [1, 2, 3, 0] rfl
        rw [show (nI (1 + 4 * t)) + 4 = nI (1 + 4 * (t + 1)) from nI_add (1 + 4 * t) 4] at h9
        refine W.widen (k := 30 + 5 * (t + 1) + 202 * nc1) (n := 39100 + 169 * (t + 1) + 804 * nc1) (by omega) (by omega) ?_
        exact ih (t + 1) nc1 _ _ _ _ _ _ _ _ _ _ ls (by omega) (by omega) hn2 hS9 hx5 hx6 (hg5.trans hgX) (hg6.trans hgM) hw1' hw2' (xap2_sym hd2) h9
      by_cases c42_4 : ((xs (nI (1 + 4 * t)).toNatClampNeg) &&& 15) = 4
      · refine lv_tableIn (tgt := 262) hx hb dL_law_42 (by rw [c42_4]; decide) (by rw [c42_4]; decide) (by rw [c42_4]; rfl) (by decide) ?_
        refine lv_aload_n hx hb dL_law_262 rfl (lv_at hl 1 rfl) ?_
        obtain ⟨nc1, mc, ms, ans, p5, p6, hn1, hn2, hmc, hms, hM5, hM6, hp5, hp6, hSm⟩ := h_flush  nc S g I R S2 g2 J R2 hSim
        rw [hgX] at hM5
        rw [hgM] at hM6
        refine kcX5_flush_2 (As := []) (rest := []) wm7_40 hM5 hx hb hml ht hown hK hw1 hX1 hgX rfl hl.1 rfl (by simp) ⟨by decide, by decide⟩ ⟨by rw [hrc]; omega, by rw [hrs]; omega⟩ dL_law_263 (fun v S' g' I' R' H1 locs1 hq5 hw1' hfr hA => ?_)
        obtain ⟨rfl, hg5, hx5⟩ := hp5 _ _ _ _ _ hq5
        obtain ⟨hw2', hd'⟩ := two_keep hw2 hap hw1' hfr hA
        show W _ _ _ _ _ _ _ _ _ _ _ _ _ _ _ (F0 m 266 ls [.int ans])
        refine lv_aload_n hx hb dL_law_266 rfl (lv_at hl 2 rfl) ?_
        refine kcX6_flush_2 (As := []) (rest := [.int ans]) wm7_43 hM6 hx hb hml ht hown hK hw2' hM1 hgM rfl hl.1 rfl (by simp [Value.category]) ⟨by decide, by decide⟩ ⟨by rw [hrc]; omega, by rw [hrs]; omega⟩ dL_law_267 (fun v2 S2' g2' J' R2' H2 locs2 hq6 hw2' hfr2 hA2 => ?_)
        obtain ⟨rfl, hg6, hx6⟩ := hp6 _ _ _ _ _ hq6
        obtain ⟨hw1', hd2⟩ := two_keep hw1' (xap2_sym hd') hw2' hfr2 hA2
        have hS9 := hSm _ _ _ _ _ _ _ _ _ _ hq5 hq6
        show W _ _ _ _ _ _ _ _ _ _ _ _ _ _ _ (F0 m 270 ls [.int ans, .int ans])
        refine lv_icmp_eq (tgt := 496) hx hb dL_law_270 (by decide) (fun c270 => ?_) (fun c270 => absurd rfl c270)
        refine lv_iinc (v := (nI (1 + 4 * t)) + 4) (lv' := [(3, .int ((nI (1 + 4 * t)) + 4)), (0, .ref b), (1, .ref aX), (2, .ref aM)]) hx hb dL_law_496 hl (k := 3) rfl rfl (by decide) rfl (fun ls hl => ?_)
        refine lv_goto (tgt := 28) hx hb dL_law_499 (by decide) ?_
        have h9 := lv_sub hl [1, 2, 3, 0] rfl
        rw [show (nI (1 + 4 * t)) + 4 = nI (1 + 4 * (t + 1)) from nI_add (1 + 4 * t) 4] at h9
        refine W.widen (k := 30 + 5 * (t + 1) + 202 * nc1) (n := 39100 + 169 * (t + 1) + 804 * nc1) (by omega) (by omega) ?_
        exact ih (t + 1) nc1 _ _ _ _ _ _ _ _ _ _ ls (by omega) (by omega) hn2 hS9 hx5 hx6 (hg5.trans hgX) (hg6.trans hgM) hw1' hw2' (xap2_sym hd2) h9
      by_cases c42_5 : ((xs (nI (1 + 4 * t)).toNatClampNeg) &&& 15) = 5
      · refine lv_tableIn (tgt := 275) hx hb dL_law_42 (by rw [c42_5]; decide) (by rw [c42_5]; decide) (by rw [c42_5]; rfl) (by decide) ?_
        refine lv_aload_n hx hb dL_law_275 rfl (lv_at hl 1 rfl) ?_
        refine lv_aload_n hx hb dL_law_276 rfl (lv_at hl 0 rfl) ?_
        refine lv_iload_n hx hb dL_law_277 rfl (lv_at hl 3 rfl) ?_
        refine lv_iconst (v := 1) hx hb dL_law_278 (by decide) ?_
        refine lv_iadd hx hb dL_law_279 ?_
        refine va_sld hx hb hX hbl hbA hw1.2.2.1 hq1 dL_law_280 ?_
        obtain ⟨nc1, mc, ms, ans, p5, p6, hn1, hn2, hmc, hms, hM5, hM6, hp5, hp6, hSm⟩ := h_cancel (xs ((nI (1 + 4 * t)) + 1).toNatClampNeg) nc S g I R S2 g2 J R2 hSim
        rw [hgX] at hM5
        rw [hgM] at hM6
        refine kcX5_cancel_2 (As := [.int (xs ((nI (1 + 4 * t)) + 1).toNatClampNeg)]) (rest := []) wm7_44 hM5 hx hb hml ht hown hK hw1 hX1 hgX rfl hl.1 rfl (by simp) ⟨by decide, by decide⟩ ⟨by rw [hrc]; omega, by rw [hrs]; omega⟩ dL_law_281 (fun v S' g' I' R' H1 locs1 hq5 hw1' hfr hA => ?_)
        obtain ⟨rfl, hg5, hx5⟩ := hp5 _ _ _ _ _ hq5
        obtain ⟨hw2', hd'⟩ := two_keep hw2 hap hw1' hfr hA
        show W _ _ _ _ _ _ _ _ _ _ _ _ _ _ _ (F0 m 284 ls [.int ans])
        refine lv_aload_n hx hb dL_law_284 rfl (lv_at hl 2 rfl) ?_
        refine lv_aload_n hx hb dL_law_285 rfl (lv_at hl 0 rfl) ?_
        refine lv_iload_n hx hb dL_law_286 rfl (lv_at hl 3 rfl) ?_
        refine lv_iconst (v := 1) hx hb dL_law_287 (by decide) ?_
        refine lv_iadd hx hb dL_law_288 ?_
        refine va_sld hx hb hX hbl hbA hw1'.2.2.1 hq1 dL_law_289 ?_
        refine kcX6_cancel_2 (As := [.int (xs ((nI (1 + 4 * t)) + 1).toNatClampNeg)]) (rest := [.int ans]) wm7_48 hM6 hx hb hml ht hown hK hw2' hM1 hgM rfl hl.1 rfl (by simp [Value.category]) ⟨by decide, by decide⟩ ⟨by rw [hrc]; omega, by rw [hrs]; omega⟩ dL_law_290 (fun v2 S2' g2' J' R2' H2 locs2 hq6 hw2' hfr2 hA2 => ?_)
        obtain ⟨rfl, hg6, hx6⟩ := hp6 _ _ _ _ _ hq6
        obtain ⟨hw1', hd2⟩ := two_keep hw1' (xap2_sym hd') hw2' hfr2 hA2
        have hS9 := hSm _ _ _ _ _ _ _ _ _ _ hq5 hq6
        show W _ _ _ _ _ _ _ _ _ _ _ _ _ _ _ (F0 m 293 ls [.int ans, .int ans])
        refine lv_icmp_eq (tgt := 496) hx hb dL_law_293 (by decide) (fun c293 => ?_) (fun c293 => absurd rfl c293)
        refine lv_iinc (v := (nI (1 + 4 * t)) + 4) (lv' := [(3, .int ((nI (1 + 4 * t)) + 4)), (0, .ref b), (1, .ref aX), (2, .ref aM)]) hx hb dL_law_496 hl (k := 3) rfl rfl (by decide) rfl (fun ls hl => ?_)
        refine lv_goto (tgt := 28) hx hb dL_law_499 (by decide) ?_
        have h9 := lv_sub hl [1, 2, 3, 0] rfl
        rw [show (nI (1 + 4 * t)) + 4 = nI (1 + 4 * (t + 1)) from nI_add (1 + 4 * t) 4] at h9
        refine W.widen (k := 30 + 5 * (t + 1) + 202 * nc1) (n := 39100 + 169 * (t + 1) + 804 * nc1) (by omega) (by omega) ?_
        exact ih (t + 1) nc1 _ _ _ _ _ _ _ _ _ _ ls (by omega) (by omega) hn2 hS9 hx5 hx6 (hg5.trans hgX) (hg6.trans hgM) hw1' hw2' (xap2_sym hd2) h9
      by_cases c42_6 : ((xs (nI (1 + 4 * t)).toNatClampNeg) &&& 15) = 6
      · refine lv_tableIn (tgt := 298) hx hb dL_law_42 (by rw [c42_6]; decide) (by rw [c42_6]; decide) (by rw [c42_6]; rfl) (by decide) ?_
        refine lv_aload_n hx hb dL_law_298 rfl (lv_at hl 1 rfl) ?_
        refine lv_aload_n hx hb dL_law_299 rfl (lv_at hl 0 rfl) ?_
        refine lv_iload_n hx hb dL_law_300 rfl (lv_at hl 3 rfl) ?_
        refine lv_iconst (v := 1) hx hb dL_law_301 (by decide) ?_
        refine lv_iadd hx hb dL_law_302 ?_
        refine va_sld hx hb hX hbl hbA hw1.2.2.1 hq1 dL_law_303 ?_
        refine lv_aload_n hx hb dL_law_304 rfl (lv_at hl 0 rfl) ?_
        refine lv_iload_n hx hb dL_law_305 rfl (lv_at hl 3 rfl) ?_
        refine lv_iconst (v := 2) hx hb dL_law_306 (by decide) ?_
        refine lv_iadd hx hb dL_law_307 ?_
        refine va_sld hx hb hX hbl hbA hw1.2.2.1 hq2 dL_law_308 ?_
        refine lv_aload_n hx hb dL_law_309 rfl (lv_at hl 0 rfl) ?_
        refine lv_iload_n hx hb dL_law_310 rfl (lv_at hl 3 rfl) ?_
        refine lv_iconst (v := 3) hx hb dL_law_311 (by decide) ?_
        refine lv_iadd hx hb dL_law_312 ?_
        refine va_sld hx hb hX hbl hbA hw1.2.2.1 hq3 dL_law_313 ?_
        obtain ⟨nc1, mc, ms, ans, p5, p6, hn1, hn2, hmc, hms, hM5, hM6, hp5, hp6, hSm⟩ := h_placed (xs ((nI (1 + 4 * t)) + 1).toNatClampNeg) (xs ((nI (1 + 4 * t)) + 2).toNatClampNeg) (xs ((nI (1 + 4 * t)) + 3).toNatClampNeg) nc S g I R S2 g2 J R2 hSim
        rw [hgX] at hM5
        rw [hgM] at hM6
        refine kcX5_placed_2 (As := [.int (xs ((nI (1 + 4 * t)) + 1).toNatClampNeg), .int (xs ((nI (1 + 4 * t)) + 2).toNatClampNeg), .int (xs ((nI (1 + 4 * t)) + 3).toNatClampNeg)]) (rest := []) wm7_49 hM5 hx hb hml ht hown hK hw1 hX1 hgX rfl hl.1 rfl (by simp) ⟨by decide, by decide⟩ ⟨by rw [hrc]; omega, by rw [hrs]; omega⟩ dL_law_314 (fun v S' g' I' R' H1 locs1 hq5 hw1' hfr hA => ?_)
        obtain ⟨rfl, hg5, hx5⟩ := hp5 _ _ _ _ _ hq5
        obtain ⟨hw2', hd'⟩ := two_keep hw2 hap hw1' hfr hA
        show W _ _ _ _ _ _ _ _ _ _ _ _ _ _ _ (F0 m 317 ls [.int ans])
        refine lv_aload_n hx hb dL_law_317 rfl (lv_at hl 2 rfl) ?_
        refine lv_aload_n hx hb dL_law_318 rfl (lv_at hl 0 rfl) ?_
        refine lv_iload_n hx hb dL_law_319 rfl (lv_at hl 3 rfl) ?_
        refine lv_iconst (v := 1) hx hb dL_law_320 (by decide) ?_
        refine lv_iadd hx hb dL_law_321 ?_
        refine va_sld hx hb hX hbl hbA hw1'.2.2.1 hq1 dL_law_322 ?_
        refine lv_aload_n hx hb dL_law_323 rfl (lv_at hl 0 rfl) ?_
        refine lv_iload_n hx hb dL_law_324 rfl (lv_at hl 3 rfl) ?_
        refine lv_iconst (v := 2) hx hb dL_law_325 (by decide) ?_
        refine lv_iadd hx hb dL_law_326 ?_
        refine va_sld hx hb hX hbl hbA hw1'.2.2.1 hq2 dL_law_327 ?_
        refine lv_aload_n hx hb dL_law_328 rfl (lv_at hl 0 rfl) ?_
        refine lv_iload_n hx hb dL_law_329 rfl (lv_at hl 3 rfl) ?_
        refine lv_iconst (v := 3) hx hb dL_law_330 (by decide) ?_
        refine lv_iadd hx hb dL_law_331 ?_
        refine va_sld hx hb hX hbl hbA hw1'.2.2.1 hq3 dL_law_332 ?_
        refine kcX6_placed_2 (As := [.int (xs ((nI (1 + 4 * t)) + 1).toNatClampNeg), .int (xs ((nI (1 + 4 * t)) + 2).toNatClampNeg), .int (xs ((nI (1 + 4 * t)) + 3).toNatClampNeg)]) (rest := [.int ans]) wm7_52 hM6 hx hb hml ht hown hK hw2' hM1 hgM rfl hl.1 rfl (by simp [Value.category]) ⟨by decide, by decide⟩ ⟨by rw [hrc]; omega, by rw [hrs]; omega⟩ dL_law_333 (fun v2 S2' g2' J' R2' H2 locs2 hq6 hw2' hfr2 hA2 => ?_)
        obtain ⟨rfl, hg6, hx6⟩ := hp6 _ _ _ _ _ hq6
        obtain ⟨hw1', hd2⟩ := two_keep hw1' (xap2_sym hd') hw2' hfr2 hA2
        have hS9 := hSm _ _ _ _ _ _ _ _ _ _ hq5 hq6
        show W _ _ _ _ _ _ _ _ _ _ _ _ _ _ _ (F0 m 336 ls [.int ans, .int ans])
        refine lv_icmp_eq (tgt := 496) hx hb dL_law_336 (by decide) (fun c336 => ?_) (fun c336 => absurd rfl c336)
        refine lv_iinc (v := (nI (1 + 4 * t)) + 4) (lv' := [(3, .int ((nI (1 + 4 * t)) + 4)), (0, .ref b), (1, .ref aX), (2, .ref aM)]) hx hb dL_law_496 hl (k := 3) rfl rfl (by decide) rfl (fun ls hl => ?_)
        refine lv_goto (tgt := 28) hx hb dL_law_499 (by decide) ?_
        have h9 := lv_sub hl [1, 2, 3, 0] rfl
        rw [show (nI (1 + 4 * t)) + 4 = nI (1 + 4 * (t + 1)) from nI_add (1 + 4 * t) 4] at h9
        refine W.widen (k := 30 + 5 * (t + 1) + 202 * nc1) (n := 39100 + 169 * (t + 1) + 804 * nc1) (by omega) (by omega) ?_
        exact ih (t + 1) nc1 _ _ _ _ _ _ _ _ _ _ ls (by omega) (by omega) hn2 hS9 hx5 hx6 (hg5.trans hgX) (hg6.trans hgM) hw1' hw2' (xap2_sym hd2) h9
      by_cases c42_7 : ((xs (nI (1 + 4 * t)).toNatClampNeg) &&& 15) = 7
      · refine lv_tableIn (tgt := 341) hx hb dL_law_42 (by rw [c42_7]; decide) (by rw [c42_7]; decide) (by rw [c42_7]; rfl) (by decide) ?_
        refine lv_aload_n hx hb dL_law_341 rfl (lv_at hl 1 rfl) ?_
        refine lv_aload_n hx hb dL_law_342 rfl (lv_at hl 0 rfl) ?_
        refine lv_iload_n hx hb dL_law_343 rfl (lv_at hl 3 rfl) ?_
        refine lv_iconst (v := 1) hx hb dL_law_344 (by decide) ?_
        refine lv_iadd hx hb dL_law_345 ?_
        refine va_sld hx hb hX hbl hbA hw1.2.2.1 hq1 dL_law_346 ?_
        refine lv_aload_n hx hb dL_law_347 rfl (lv_at hl 0 rfl) ?_
        refine lv_iload_n hx hb dL_law_348 rfl (lv_at hl 3 rfl) ?_
        refine lv_iconst (v := 2) hx hb dL_law_349 (by decide) ?_
        refine lv_iadd hx hb dL_law_350 ?_
        refine va_sld hx hb hX hbl hbA hw1.2.2.1 hq2 dL_law_351 ?_
        obtain ⟨nc1, mc, ms, ans, p5, p6, hn1, hn2, hmc, hms, hM5, hM6, hp5, hp6, hSm⟩ := h_about (xs ((nI (1 + 4 * t)) + 1).toNatClampNeg) (xs ((nI (1 + 4 * t)) + 2).toNatClampNeg) nc S g I R S2 g2 J R2 hSim
        rw [hgX] at hM5
        rw [hgM] at hM6
        refine kcX5_about_2 (As := [.int (xs ((nI (1 + 4 * t)) + 1).toNatClampNeg), .int (xs ((nI (1 + 4 * t)) + 2).toNatClampNeg)]) (rest := []) wm7_53 hM5 hx hb hml ht hown hK hw1 hX1 hgX rfl hl.1 rfl (by simp) ⟨by decide, by decide⟩ ⟨by rw [hrc]; omega, by rw [hrs]; omega⟩ dL_law_352 (fun v S' g' I' R' H1 locs1 hq5 hw1' hfr hA => ?_)
        obtain ⟨rfl, hg5, hx5⟩ := hp5 _ _ _ _ _ hq5
        obtain ⟨hw2', hd'⟩ := two_keep hw2 hap hw1' hfr hA
        show W _ _ _ _ _ _ _ _ _ _ _ _ _ _ _ (F0 m 355 ls [.int ans])
        refine lv_aload_n hx hb dL_law_355 rfl (lv_at hl 2 rfl) ?_
        refine lv_aload_n hx hb dL_law_356 rfl (lv_at hl 0 rfl) ?_
        refine lv_iload_n hx hb dL_law_357 rfl (lv_at hl 3 rfl) ?_
        refine lv_iconst (v := 1) hx hb dL_law_358 (by decide) ?_
        refine lv_iadd hx hb dL_law_359 ?_
        refine va_sld hx hb hX hbl hbA hw1'.2.2.1 hq1 dL_law_360 ?_
        refine lv_aload_n hx hb dL_law_361 rfl (lv_at hl 0 rfl) ?_
        refine lv_iload_n hx hb dL_law_362 rfl (lv_at hl 3 rfl) ?_
        refine lv_iconst (v := 2) hx hb dL_law_363 (by decide) ?_
        refine lv_iadd hx hb dL_law_364 ?_
        refine va_sld hx hb hX hbl hbA hw1'.2.2.1 hq2 dL_law_365 ?_
        refine kcX6_about_2 (As := [.int (xs ((nI (1 + 4 * t)) + 1).toNatClampNeg), .int (xs ((nI (1 + 4 * t)) + 2).toNatClampNeg)]) (rest := [.int ans]) wm7_57 hM6 hx hb hml ht hown hK hw2' hM1 hgM rfl hl.1 rfl (by simp [Value.category]) ⟨by decide, by decide⟩ ⟨by rw [hrc]; omega, by rw [hrs]; omega⟩ dL_law_366 (fun v2 S2' g2' J' R2' H2 locs2 hq6 hw2' hfr2 hA2 => ?_)
        obtain ⟨rfl, hg6, hx6⟩ := hp6 _ _ _ _ _ hq6
        obtain ⟨hw1', hd2⟩ := two_keep hw1' (xap2_sym hd') hw2' hfr2 hA2
        have hS9 := hSm _ _ _ _ _ _ _ _ _ _ hq5 hq6
        show W _ _ _ _ _ _ _ _ _ _ _ _ _ _ _ (F0 m 369 ls [.int ans, .int ans])
        refine lv_icmp_eq (tgt := 496) hx hb dL_law_369 (by decide) (fun c369 => ?_) (fun c369 => absurd rfl c369)
        refine lv_iinc (v := (nI (1 + 4 * t)) + 4) (lv' := [(3, .int ((nI (1 + 4 * t)) + 4)), (0, .ref b), (1, .ref aX), (2, .ref aM)]) hx hb dL_law_496 hl (k := 3) rfl rfl (by decide) rfl (fun ls hl => ?_)
        refine lv_goto (tgt := 28) hx hb dL_law_499 (by decide) ?_
        have h9 := lv_sub hl [1, 2, 3, 0] rfl
        rw [show (nI (1 + 4 * t)) + 4 = nI (1 + 4 * (t + 1)) from nI_add (1 + 4 * t) 4] at h9
        refine W.widen (k := 30 + 5 * (t + 1) + 202 * nc1) (n := 39100 + 169 * (t + 1) + 804 * nc1) (by omega) (by omega) ?_
        exact ih (t + 1) nc1 _ _ _ _ _ _ _ _ _ _ ls (by omega) (by omega) hn2 hS9 hx5 hx6 (hg5.trans hgX) (hg6.trans hgM) hw1' hw2' (xap2_sym hd2) h9
      by_cases c42_8 : ((xs (nI (1 + 4 * t)).toNatClampNeg) &&& 15) = 8
      · refine lv_tableIn (tgt := 374) hx hb dL_law_42 (by rw [c42_8]; decide) (by rw [c42_8]; decide) (by rw [c42_8]; rfl) (by decide) ?_
        refine lv_aload_n hx hb dL_law_374 rfl (lv_at hl 1 rfl) ?_
        refine lv_aload_n hx hb dL_law_375 rfl (lv_at hl 0 rfl) ?_
        refine lv_iload_n hx hb dL_law_376 rfl (lv_at hl 3 rfl) ?_
        refine lv_iconst (v := 1) hx hb dL_law_377 (by decide) ?_
        refine lv_iadd hx hb dL_law_378 ?_
        refine va_sld hx hb hX hbl hbA hw1.2.2.1 hq1 dL_law_379 ?_
        obtain ⟨nc1, mc, ms, ans, p5, p6, hn1, hn2, hmc, hms, hM5, hM6, hp5, hp6, hSm⟩ := h_held (xs ((nI (1 + 4 * t)) + 1).toNatClampNeg) nc S g I R S2 g2 J R2 hSim
        rw [hgX] at hM5
        rw [hgM] at hM6
        refine kcX5_held_2 (As := [.int (xs ((nI (1 + 4 * t)) + 1).toNatClampNeg)]) (rest := []) wm7_58 hM5 hx hb hml ht hown hK hw1 hX1 hgX rfl hl.1 rfl (by simp) ⟨by decide, by decide⟩ ⟨by rw [hrc]; omega, by rw [hrs]; omega⟩ dL_law_380 (fun v S' g' I' R' H1 locs1 hq5 hw1' hfr hA => ?_)
        obtain ⟨rfl, hg5, hx5⟩ := hp5 _ _ _ _ _ hq5
        obtain ⟨hw2', hd'⟩ := two_keep hw2 hap hw1' hfr hA
        show W _ _ _ _ _ _ _ _ _ _ _ _ _ _ _ (F0 m 383 ls [.int ans])
        refine lv_aload_n hx hb dL_law_383 rfl (lv_at hl 2 rfl) ?_
        refine lv_aload_n hx hb dL_law_384 rfl (lv_at hl 0 rfl) ?_
        refine lv_iload_n hx hb dL_law_385 rfl (lv_at hl 3 rfl) ?_
        refine lv_iconst (v := 1) hx hb dL_law_386 (by decide) ?_
        refine lv_iadd hx hb dL_law_387 ?_
        refine va_sld hx hb hX hbl hbA hw1'.2.2.1 hq1 dL_law_388 ?_
        refine kcX6_held_2 (As := [.int (xs ((nI (1 + 4 * t)) + 1).toNatClampNeg)]) (rest := [.int ans]) wm7_61 hM6 hx hb hml ht hown hK hw2' hM1 hgM rfl hl.1 rfl (by simp [Value.category]) ⟨by decide, by decide⟩ ⟨by rw [hrc]; omega, by rw [hrs]; omega⟩ dL_law_389 (fun v2 S2' g2' J' R2' H2 locs2 hq6 hw2' hfr2 hA2 => ?_)
        obtain ⟨rfl, hg6, hx6⟩ := hp6 _ _ _ _ _ hq6
        obtain ⟨hw1', hd2⟩ := two_keep hw1' (xap2_sym hd') hw2' hfr2 hA2
        have hS9 := hSm _ _ _ _ _ _ _ _ _ _ hq5 hq6
        show W _ _ _ _ _ _ _ _ _ _ _ _ _ _ _ (F0 m 392 ls [.int ans, .int ans])
        refine lv_icmp_eq (tgt := 496) hx hb dL_law_392 (by decide) (fun c392 => ?_) (fun c392 => absurd rfl c392)
        refine lv_iinc (v := (nI (1 + 4 * t)) + 4) (lv' := [(3, .int ((nI (1 + 4 * t)) + 4)), (0, .ref b), (1, .ref aX), (2, .ref aM)]) hx hb dL_law_496 hl (k := 3) rfl rfl (by decide) rfl (fun ls hl => ?_)
        refine lv_goto (tgt := 28) hx hb dL_law_499 (by decide) ?_
        have h9 := lv_sub hl [1, 2, 3, 0] rfl
        rw [show (nI (1 + 4 * t)) + 4 = nI (1 + 4 * (t + 1)) from nI_add (1 + 4 * t) 4] at h9
        refine W.widen (k := 30 + 5 * (t + 1) + 202 * nc1) (n := 39100 + 169 * (t + 1) + 804 * nc1) (by omega) (by omega) ?_
        exact ih (t + 1) nc1 _ _ _ _ _ _ _ _ _ _ ls (by omega) (by omega) hn2 hS9 hx5 hx6 (hg5.trans hgX) (hg6.trans hgM) hw1' hw2' (xap2_sym hd2) h9
      by_cases c42_9 : ((xs (nI (1 + 4 * t)).toNatClampNeg) &&& 15) = 9
      · refine lv_tableIn (tgt := 397) hx hb dL_law_42 (by rw [c42_9]; decide) (by rw [c42_9]; decide) (by rw [c42_9]; rfl) (by decide) ?_
        refine lv_aload_n hx hb dL_law_397 rfl (lv_at hl 1 rfl) ?_
        refine lv_aload_n hx hb dL_law_398 rfl (lv_at hl 0 rfl) ?_
        refine lv_iload_n hx hb dL_law_399 rfl (lv_at hl 3 rfl) ?_
        refine lv_iconst (v := 1) hx hb dL_law_400 (by decide) ?_
        refine lv_iadd hx hb dL_law_401 ?_
        refine va_sld hx hb hX hbl hbA hw1.2.2.1 hq1 dL_law_402 ?_
        refine lv_aload_n hx hb dL_law_403 rfl (lv_at hl 0 rfl) ?_
        refine lv_iload_n hx hb dL_law_404 rfl (lv_at hl 3 rfl) ?_
        refine lv_iconst (v := 2) hx hb dL_law_405 (by decide) ?_
        refine lv_iadd hx hb dL_law_406 ?_
        refine va_sld hx hb hX hbl hbA hw1.2.2.1 hq2 dL_law_407 ?_
        obtain ⟨nc1, mc, ms, ans, p5, p6, hn1, hn2, hmc, hms, hM5, hM6, hp5, hp6, hSm⟩ := h_used (xs ((nI (1 + 4 * t)) + 1).toNatClampNeg) (xs ((nI (1 + 4 * t)) + 2).toNatClampNeg) nc S g I R S2 g2 J R2 hSim
        rw [hgX] at hM5
        rw [hgM] at hM6
        refine kcX5_used_2 (As := [.int (xs ((nI (1 + 4 * t)) + 1).toNatClampNeg), .int (xs ((nI (1 + 4 * t)) + 2).toNatClampNeg)]) (rest := []) wm7_62 hM5 hx hb hml ht hown hK hw1 hX1 hgX rfl hl.1 rfl (by simp) ⟨by decide, by decide⟩ ⟨by rw [hrc]; omega, by rw [hrs]; omega⟩ dL_law_408 (fun v S' g' I' R' H1 locs1 hq5 hw1' hfr hA => ?_)
        obtain ⟨rfl, hg5, hx5⟩ := hp5 _ _ _ _ _ hq5
        obtain ⟨hw2', hd'⟩ := two_keep hw2 hap hw1' hfr hA
        show W _ _ _ _ _ _ _ _ _ _ _ _ _ _ _ (F0 m 411 ls [.int ans])
        refine lv_aload_n hx hb dL_law_411 rfl (lv_at hl 2 rfl) ?_
        refine lv_aload_n hx hb dL_law_412 rfl (lv_at hl 0 rfl) ?_
        refine lv_iload_n hx hb dL_law_413 rfl (lv_at hl 3 rfl) ?_
        refine lv_iconst (v := 1) hx hb dL_law_414 (by decide) ?_
        refine lv_iadd hx hb dL_law_415 ?_
        refine va_sld hx hb hX hbl hbA hw1'.2.2.1 hq1 dL_law_416 ?_
        refine lv_aload_n hx hb dL_law_417 rfl (lv_at hl 0 rfl) ?_
        refine lv_iload_n hx hb dL_law_418 rfl (lv_at hl 3 rfl) ?_
        refine lv_iconst (v := 2) hx hb dL_law_419 (by decide) ?_
        refine lv_iadd hx hb dL_law_420 ?_
        refine va_sld hx hb hX hbl hbA hw1'.2.2.1 hq2 dL_law_421 ?_
        refine kcX6_used_2 (As := [.int (xs ((nI (1 + 4 * t)) + 1).toNatClampNeg), .int (xs ((nI (1 + 4 * t)) + 2).toNatClampNeg)]) (rest := [.int ans]) wm7_65 hM6 hx hb hml ht hown hK hw2' hM1 hgM rfl hl.1 rfl (by simp [Value.category]) ⟨by decide, by decide⟩ ⟨by rw [hrc]; omega, by rw [hrs]; omega⟩ dL_law_422 (fun v2 S2' g2' J' R2' H2 locs2 hq6 hw2' hfr2 hA2 => ?_)
        obtain ⟨rfl, hg6, hx6⟩ := hp6 _ _ _ _ _ hq6
        obtain ⟨hw1', hd2⟩ := two_keep hw1' (xap2_sym hd') hw2' hfr2 hA2
        have hS9 := hSm _ _ _ _ _ _ _ _ _ _ hq5 hq6
        show W _ _ _ _ _ _ _ _ _ _ _ _ _ _ _ (F0 m 425 ls [.int ans, .int ans])
        refine lv_icmp_eq (tgt := 496) hx hb dL_law_425 (by decide) (fun c425 => ?_) (fun c425 => absurd rfl c425)
        refine lv_iinc (v := (nI (1 + 4 * t)) + 4) (lv' := [(3, .int ((nI (1 + 4 * t)) + 4)), (0, .ref b), (1, .ref aX), (2, .ref aM)]) hx hb dL_law_496 hl (k := 3) rfl rfl (by decide) rfl (fun ls hl => ?_)
        refine lv_goto (tgt := 28) hx hb dL_law_499 (by decide) ?_
        have h9 := lv_sub hl [1, 2, 3, 0] rfl
        rw [show (nI (1 + 4 * t)) + 4 = nI (1 + 4 * (t + 1)) from nI_add (1 + 4 * t) 4] at h9
        refine W.widen (k := 30 + 5 * (t + 1) + 202 * nc1) (n := 39100 + 169 * (t + 1) + 804 * nc1) (by omega) (by omega) ?_
        exact ih (t + 1) nc1 _ _ _ _ _ _ _ _ _ _ ls (by omega) (by omega) hn2 hS9 hx5 hx6 (hg5.trans hgX) (hg6.trans hgM) hw1' hw2' (xap2_sym hd2) h9
      by_cases c42_10 : ((xs (nI (1 + 4 * t)).toNatClampNeg) &&& 15) = 10
      · refine lv_tableIn (tgt := 430) hx hb dL_law_42 (by rw [c42_10]; decide) (by rw [c42_10]; decide) (by rw [c42_10]; rfl) (by decide) ?_
        refine lv_aload_n hx hb dL_law_430 rfl (lv_at hl 1 rfl) ?_
        refine lv_aload_n hx hb dL_law_431 rfl (lv_at hl 0 rfl) ?_
        refine lv_iload_n hx hb dL_law_432 rfl (lv_at hl 3 rfl) ?_
        refine lv_iconst (v := 1) hx hb dL_law_433 (by decide) ?_
        refine lv_iadd hx hb dL_law_434 ?_
        refine va_sld hx hb hX hbl hbA hw1.2.2.1 hq1 dL_law_435 ?_
        refine lv_aload_n hx hb dL_law_436 rfl (lv_at hl 0 rfl) ?_
        refine lv_iload_n hx hb dL_law_437 rfl (lv_at hl 3 rfl) ?_
        refine lv_iconst (v := 2) hx hb dL_law_438 (by decide) ?_
        refine lv_iadd hx hb dL_law_439 ?_
        refine va_sld hx hb hX hbl hbA hw1.2.2.1 hq2 dL_law_440 ?_
        refine lv_aload_n hx hb dL_law_441 rfl (lv_at hl 0 rfl) ?_
        refine lv_iload_n hx hb dL_law_442 rfl (lv_at hl 3 rfl) ?_
        refine lv_iconst (v := 3) hx hb dL_law_443 (by decide) ?_
        refine lv_iadd hx hb dL_law_444 ?_
        refine va_sld hx hb hX hbl hbA hw1.2.2.1 hq3 dL_law_445 ?_
        obtain ⟨nc1, mc, ms, ans, p5, p6, hn1, hn2, hmc, hms, hM5, hM6, hp5, hp6, hSm⟩ := h_seen (xs ((nI (1 + 4 * t)) + 1).toNatClampNeg) (xs ((nI (1 + 4 * t)) + 2).toNatClampNeg) (xs ((nI (1 + 4 * t)) + 3).toNatClampNeg) nc S g I R S2 g2 J R2 hSim
        rw [hgX] at hM5
        rw [hgM] at hM6
        refine kcX5_seen_2 (As := [.int (xs ((nI (1 + 4 * t)) + 1).toNatClampNeg), .int (xs ((nI (1 + 4 * t)) + 2).toNatClampNeg), .int (xs ((nI (1 + 4 * t)) + 3).toNatClampNeg)]) (rest := []) wm7_66 hM5 hx hb hml ht hown hK hw1 hX1 hgX rfl hl.1 rfl (by simp) ⟨by decide, by decide⟩ ⟨by rw [hrc]; omega, by rw [hrs]; omega⟩ dL_law_446 (fun v S' g' I' R' H1 locs1 hq5 hw1' hfr hA => ?_)
        obtain ⟨rfl, hg5, hx5⟩ := hp5 _ _ _ _ _ hq5
        obtain ⟨hw2', hd'⟩ := two_keep hw2 hap hw1' hfr hA
        show W _ _ _ _ _ _ _ _ _ _ _ _ _ _ _ (F0 m 449 ls [.int ans])
        refine lv_aload_n hx hb dL_law_449 rfl (lv_at hl 2 rfl) ?_
        refine lv_aload_n hx hb dL_law_450 rfl (lv_at hl 0 rfl) ?_
        refine lv_iload_n hx hb dL_law_451 rfl (lv_at hl 3 rfl) ?_
        refine lv_iconst (v := 1) hx hb dL_law_452 (by decide) ?_
        refine lv_iadd hx hb dL_law_453 ?_
        refine va_sld hx hb hX hbl hbA hw1'.2.2.1 hq1 dL_law_454 ?_
        refine lv_aload_n hx hb dL_law_455 rfl (lv_at hl 0 rfl) ?_
        refine lv_iload_n hx hb dL_law_456 rfl (lv_at hl 3 rfl) ?_
        refine lv_iconst (v := 2) hx hb dL_law_457 (by decide) ?_
        refine lv_iadd hx hb dL_law_458 ?_
        refine va_sld hx hb hX hbl hbA hw1'.2.2.1 hq2 dL_law_459 ?_
        refine lv_aload_n hx hb dL_law_460 rfl (lv_at hl 0 rfl) ?_
        refine lv_iload_n hx hb dL_law_461 rfl (lv_at hl 3 rfl) ?_
        refine lv_iconst (v := 3) hx hb dL_law_462 (by decide) ?_
        refine lv_iadd hx hb dL_law_463 ?_
        refine va_sld hx hb hX hbl hbA hw1'.2.2.1 hq3 dL_law_464 ?_
        refine kcX6_seen_2 (As := [.int (xs ((nI (1 + 4 * t)) + 1).toNatClampNeg), .int (xs ((nI (1 + 4 * t)) + 2).toNatClampNeg), .int (xs ((nI (1 + 4 * t)) + 3).toNatClampNeg)]) (rest := [.int ans]) wm7_69 hM6 hx hb hml ht hown hK hw2' hM1 hgM rfl hl.1 rfl (by simp [Value.category]) ⟨by decide, by decide⟩ ⟨by rw [hrc]; omega, by rw [hrs]; omega⟩ dL_law_465 (fun v2 S2' g2' J' R2' H2 locs2 hq6 hw2' hfr2 hA2 => ?_)
        obtain ⟨rfl, hg6, hx6⟩ := hp6 _ _ _ _ _ hq6
        obtain ⟨hw1', hd2⟩ := two_keep hw1' (xap2_sym hd') hw2' hfr2 hA2
        have hS9 := hSm _ _ _ _ _ _ _ _ _ _ hq5 hq6
        show W _ _ _ _ _ _ _ _ _ _ _ _ _ _ _ (F0 m 468 ls [.int ans, .int ans])
        refine lv_icmp_eq (tgt := 496) hx hb dL_law_468 (by decide) (fun c468 => ?_) (fun c468 => absurd rfl c468)
        refine lv_iinc (v := (nI (1 + 4 * t)) + 4) (lv' := [(3, .int ((nI (1 + 4 * t)) + 4)), (0, .ref b), (1, .ref aX), (2, .ref aM)]) hx hb dL_law_496 hl (k := 3) rfl rfl (by decide) rfl (fun ls hl => ?_)
        refine lv_goto (tgt := 28) hx hb dL_law_499 (by decide) ?_
        have h9 := lv_sub hl [1, 2, 3, 0] rfl
        rw [show (nI (1 + 4 * t)) + 4 = nI (1 + 4 * (t + 1)) from nI_add (1 + 4 * t) 4] at h9
        refine W.widen (k := 30 + 5 * (t + 1) + 202 * nc1) (n := 39100 + 169 * (t + 1) + 804 * nc1) (by omega) (by omega) ?_
        exact ih (t + 1) nc1 _ _ _ _ _ _ _ _ _ _ ls (by omega) (by omega) hn2 hS9 hx5 hx6 (hg5.trans hgX) (hg6.trans hgM) hw1' hw2' (xap2_sym hd2) h9
      by_cases c42_11 : ((xs (nI (1 + 4 * t)).toNatClampNeg) &&& 15) = 11
      · refine lv_tableIn (tgt := 473) hx hb dL_law_42 (by rw [c42_11]; decide) (by rw [c42_11]; decide) (by rw [c42_11]; rfl) (by decide) ?_
        refine lv_aload_n hx hb dL_law_473 rfl (lv_at hl 1 rfl) ?_
        refine lv_aload_n hx hb dL_law_474 rfl (lv_at hl 0 rfl) ?_
        refine lv_iload_n hx hb dL_law_475 rfl (lv_at hl 3 rfl) ?_
        refine lv_iconst (v := 1) hx hb dL_law_476 (by decide) ?_
        refine lv_iadd hx hb dL_law_477 ?_
        refine va_sld hx hb hX hbl hbA hw1.2.2.1 hq1 dL_law_478 ?_
        obtain ⟨nc1, mc, ms, ans, p5, p6, hn1, hn2, hmc, hms, hM5, hM6, hp5, hp6, hSm⟩ := h_count (xs ((nI (1 + 4 * t)) + 1).toNatClampNeg) nc S g I R S2 g2 J R2 hSim
        rw [hgX] at hM5
        rw [hgM] at hM6
        refine kcX5_count_2 (As := [.int (xs ((nI (1 + 4 * t)) + 1).toNatClampNeg)]) (rest := []) wm7_70 hM5 hx hb hml ht hown hK hw1 hX1 hgX rfl hl.1 rfl (by simp) ⟨by decide, by decide⟩ ⟨by rw [hrc]; omega, by rw [hrs]; omega⟩ dL_law_479 (fun v S' g' I' R' H1 locs1 hq5 hw1' hfr hA => ?_)
        obtain ⟨rfl, hg5, hx5⟩ := hp5 _ _ _ _ _ hq5
        obtain ⟨hw2', hd'⟩ := two_keep hw2 hap hw1' hfr hA
        show W _ _ _ _ _ _ _ _ _ _ _ _ _ _ _ (F0 m 482 ls [.int ans])
        refine lv_aload_n hx hb dL_law_482 rfl (lv_at hl 2 rfl) ?_
        refine lv_aload_n hx hb dL_law_483 rfl (lv_at hl 0 rfl) ?_
        refine lv_iload_n hx hb dL_law_484 rfl (lv_at hl 3 rfl) ?_
        refine lv_iconst (v := 1) hx hb dL_law_485 (by decide) ?_
        refine lv_iadd hx hb dL_law_486 ?_
        refine va_sld hx hb hX hbl hbA hw1'.2.2.1 hq1 dL_law_487 ?_
        refine kcX6_count_2 (As := [.int (xs ((nI (1 + 4 * t)) + 1).toNatClampNeg)]) (rest := [.int ans]) wm7_73 hM6 hx hb hml ht hown hK hw2' hM1 hgM rfl hl.1 rfl (by simp [Value.category]) ⟨by decide, by decide⟩ ⟨by rw [hrc]; omega, by rw [hrs]; omega⟩ dL_law_488 (fun v2 S2' g2' J' R2' H2 locs2 hq6 hw2' hfr2 hA2 => ?_)
        obtain ⟨rfl, hg6, hx6⟩ := hp6 _ _ _ _ _ hq6
        obtain ⟨hw1', hd2⟩ := two_keep hw1' (xap2_sym hd') hw2' hfr2 hA2
        have hS9 := hSm _ _ _ _ _ _ _ _ _ _ hq5 hq6
        show W _ _ _ _ _ _ _ _ _ _ _ _ _ _ _ (F0 m 491 ls [.int ans, .int ans])
        refine lv_icmp_eq (tgt := 496) hx hb dL_law_491 (by decide) (fun c491 => ?_) (fun c491 => absurd rfl c491)
        refine lv_iinc (v := (nI (1 + 4 * t)) + 4) (lv' := [(3, .int ((nI (1 + 4 * t)) + 4)), (0, .ref b), (1, .ref aX), (2, .ref aM)]) hx hb dL_law_496 hl (k := 3) rfl rfl (by decide) rfl (fun ls hl => ?_)
        refine lv_goto (tgt := 28) hx hb dL_law_499 (by decide) ?_
        have h9 := lv_sub hl [1, 2, 3, 0] rfl
        rw [show (nI (1 + 4 * t)) + 4 = nI (1 + 4 * (t + 1)) from nI_add (1 + 4 * t) 4] at h9
        refine W.widen (k := 30 + 5 * (t + 1) + 202 * nc1) (n := 39100 + 169 * (t + 1) + 804 * nc1) (by omega) (by omega) ?_
        exact ih (t + 1) nc1 _ _ _ _ _ _ _ _ _ _ ls (by omega) (by omega) hn2 hS9 hx5 hx6 (hg5.trans hgX) (hg6.trans hgM) hw1' hw2' (xap2_sym hd2) h9
      · refine lv_tableOut (tgt := 496) hx hb dL_law_42 (by have h0 := lv_neT c42_0 (show ((0 : Int32)).toInt = 0 from rfl); have h1 := lv_neT c42_1 (show ((1 : Int32)).toInt = 1 from rfl); have h2 := lv_neT c42_2 (show ((2 : Int32)).toInt = 2 from rfl); have h3 := lv_neT c42_3 (show ((3 : Int32)).toInt = 3 from rfl); have h4 := lv_neT c42_4 (show ((4 : Int32)).toInt = 4 from rfl); have h5 := lv_neT c42_5 (show ((5 : Int32)).toInt = 5 from rfl); have h6 := lv_neT c42_6 (show ((6 : Int32)).toInt = 6 from rfl); have h7 := lv_neT c42_7 (show ((7 : Int32)).toInt = 7 from rfl); have h8 := lv_neT c42_8 (show ((8 : Int32)).toInt = 8 from rfl); have h9 := lv_neT c42_9 (show ((9 : Int32)).toInt = 9 from rfl); have h10 := lv_neT c42_10 (show ((10 : Int32)).toInt = 10 from rfl); have h11 := lv_neT c42_11 (show ((11 : Int32)).toInt = 11 from rfl); omega) (by decide) ?_
        refine lv_iinc (v := (nI (1 + 4 * t)) + 4) (lv' := [(3, .int ((nI (1 + 4 * t)) + 4)), (0, .ref b), (1, .ref aX), (2, .ref aM)]) hx hb dL_law_496 hl (k := 3) rfl rfl (by decide) rfl (fun ls hl => ?_)
        refine lv_goto (tgt := 28) hx hb dL_law_499 (by decide) ?_
        have h9 := lv_sub hl [1, 2, 3, 0] rfl
        rw [show (nI (1 + 4 * t)) + 4 = nI (1 + 4 * (t + 1)) from nI_add (1 + 4 * t) 4] at h9
        refine W.widen (k := 30 + 5 * (t + 1) + 202 * nc) (n := 39100 + 169 * (t + 1) + 804 * nc) (by omega) (by omega) ?_
        exact ih (t + 1) nc _ _ _ _ _ _ _ _ _ _ ls (by omega) (by omega) hnc hSim hX1 hM1 hgX hgM hw1 hw2 hap h9
