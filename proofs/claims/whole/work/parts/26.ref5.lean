def zf_close (J P1 P4 : nh_N → Nat → Int32) : Int32 × (nh_N → Nat → Int32) := if J zM 17 = 40 then (-3, J) else (P4 zM 18 - P1 zM 18, iu P4 zM 17 (P4 zM 17 + 1))
/-- what close needs of its start: its loops stay in their bounds; P1 .. P4: the heap behind each loop -/
def zclOK (J : nh_N → Nat → Int32) (nb mn ni nw : Nat) (P1 P2 P3 P4 : nh_N → Nat → Int32) : Prop := zl_cl1 8 0 J = P1 ∧ zl_cl2 nb 0 (iu P1 zM 25 0) = P2 ∧ zl_cl3 mn (nI mn) ni 0 P2 = P3 ∧ zl_cl4 nw 0 (iu P3 zM 23 (P3 zM 25)) = P4 ∧ nb ≤ 200 ∧ (∀ t, t ≤ nb → zH2 nb (zl_cl2 t 0 (iu P1 zM 25 0))) ∧ (∀ t, t < nb → zO2 (0 + t) (zl_cl2 t 0 (iu P1 zM 25 0))) ∧ P2 zM 25 = nI mn ∧ mn ≤ 200 ∧ ni ≤ 200 ∧ (∀ t, t ≤ ni → zH3 ni (zl_cl3 mn (nI mn) t 0 P2)) ∧ (∀ t, t < ni → zO3 mn (0 + t) (zl_cl3 mn (nI mn) t 0 P2)) ∧ nw ≤ 200 ∧ ∀ t, t ≤ nw → zH4 nw (zl_cl4 t 0 (iu P3 zM 23 (P3 zM 25)))
set_option maxHeartbeats 4000000 in
set_option maxRecDepth 100000 in
theorem zc_close (l : Launch) (D : va_G) (cA : Nat → ClassId) {S : nh_N → Option nh_C} {g : nh_N → Nat} {J : (nh_N → Nat → Int32)} {R : nh_N → Nat → Option nh_N} (hz : zSh S R)  (nb mn ni nw : Nat) (P1 P2 P3 P4 : nh_N → Nat → Int32) (hcl : ¬ J zM 17 = 40 → zclOK J nb mn ni nw P1 P2 P3 P4) : im_M l D cA yX6_close vX6_close 2 53 0 0 [.ref (g zM)] S g J R (im_eq (some (.int (zf_close J P1 P4).1)) S g (zf_close J P1 P4).2 R) := by
  refine nh_of (cc := cX6_close) (maxL := 4) (ret := (some .int)) (by decide) rfl (Nat.le_of_ble_eq_true rfl) ?_
  intro p e s m below meth c A ls hx hb hr hml hts hown hlocks hin hK hw hl
  have ht : ∀ w ∈ im_ws, w.before _ s = true := fun w h => hts w (List.mem_cons_of_mem _ h)
  have hl : lv_has ls 4 [(0, .ref (g zM))] := hl
  refine lv_aload_n hx hb dX6_close_0 rfl (lv_at hl 0 rfl) ?_
  refine fg6 (v := .int (J zM 17)) hx hb ht hown hK hw (zs_m hz) rfl 17 wf6_86 (by decide) (nh_vi rfl) dX6_close_1 ?_
  refine lv_bipush (v := 40) hx hb dX6_close_4 (by decide) ?_
  refine lv_icmp_ne (tgt := 12) hx hb dX6_close_6 (by decide) (fun c6 => ?_) (fun c6 => ?_)
  · obtain ⟨e1, e2, e3, e4, hb2, hA1, hA2, hmn, hm2, hi2, hB1, hB2, hw2, hC1⟩ := hcl c6
    refine lv_iconst (v := 0) hx hb dX6_close_12 (by decide) ?_
    refine lv_istore_n (lv' := [(1, .int 0), (0, .ref (g zM))]) hx hb dX6_close_13 rfl hl (by decide) rfl (fun ls hl => ?_)
    refine zw_cl1 hx hb hml ht hown hK hz  8 0 J _ _ ls (by omega) (fun _ _ => trivial) (fun _ _ => trivial) hw (by rw [nI_0]; exact lv_sub hl [1, 0] rfl) (fun H locs ls hw hl => ?_)
    rw [e1] at hw
    have hl : lv_has ls 4 [(0, .ref (g zM)), (1, .int (nI 8))] := hl
    refine lv_aload_n hx hb dX6_close_58 rfl (lv_at hl 0 rfl) ?_
    refine fg6 (v := .int (P1 zM 18)) hx hb ht hown hK hw (zs_m hz) rfl 18 wf6_95 (by decide) (nh_vi rfl) dX6_close_59 ?_
    refine lv_istore_n (lv' := [(1, .int (P1 zM 18)), (0, .ref (g zM))]) hx hb dX6_close_62 rfl hl (by decide) rfl (fun ls hl => ?_)
    refine lv_aload_n hx hb dX6_close_63 rfl (lv_at hl 1 rfl) ?_
    refine lv_iconst (v := 0) hx hb dX6_close_64 (by decide) ?_
    refine fp6 hx hb ht hown hK hw (zs_m hz) rfl 25 wf6_98 (by decide) rfl rfl rfl rfl dX6_close_65 (fun H locs J1 eJ1 hw => ?_)
    refine lv_iconst (v := 0) hx hb dX6_close_68 (by decide) ?_
    refine lv_istore_n (lv' := [(2, .int 0), (1, .int (P1 zM 18)), (0, .ref (g zM))]) hx hb dX6_close_69 rfl hl (by decide) rfl (fun ls hl => ?_)
    subst eJ1
    refine zw_cl2 hx hb hml ht hown hK hz (P1 zM 18) nb hb2 nb 0 (iu P1 zM 25 0) _ _ ls (by omega) hA1 hA2 hw (by rw [nI_0]; exact lv_sub hl [2, 1, 0] rfl) (fun H locs ls hw hl => ?_)
    rw [e2] at hw
    have hl : lv_has ls 4 [(0, .ref (g zM)), (1, .int (P1 zM 18)), (2, .int (nI nb))] := hl
    refine lv_aload_n hx hb dX6_close_107 rfl (lv_at hl 0 rfl) ?_
    refine fg6 (v := .int (P2 zM 25)) hx hb ht hown hK hw (zs_m hz) rfl 25 wf6_98 (by decide) (nh_vi rfl) dX6_close_108 ?_
    rw [hmn]
    refine lv_istore_n (lv' := [(2, .int (nI mn)), (0, .ref (g zM)), (1, .int (P1 zM 18))]) hx hb dX6_close_111 rfl hl (by decide) rfl (fun ls hl => ?_)
    refine lv_iconst (v := 0) hx hb dX6_close_112 (by decide) ?_
    refine lv_istore_n (lv' := [(3, .int 0), (2, .int (nI mn)), (0, .ref (g zM)), (1, .int (P1 zM 18))]) hx hb dX6_close_113 rfl hl (by decide) rfl (fun ls hl => ?_)
    refine zw_cl3 hx hb hml ht hown hK hz mn (nI mn) (P1 zM 18) rfl hm2 ni hi2 ni 0 P2 _ _ ls (by omega) hB1 hB2 hw (by rw [nI_0]; exact lv_sub hl [2, 3, 1, 0] rfl) (fun H locs ls hw hl => ?_)
    rw [e3] at hw
    have hl : lv_has ls 4 [(0, .ref (g zM)), (1, .int (P1 zM 18)), (2, .int (nI mn)), (3, .int (nI ni))] := hl
    refine lv_aload_n hx hb dX6_close_150 rfl (lv_at hl 0 rfl) ?_
    refine lv_aload_n hx hb dX6_close_151 rfl (lv_at hl 0 rfl) ?_
    refine fg6 (v := .int (P3 zM 25)) hx hb ht hown hK hw (zs_m hz) rfl 25 wf6_98 (by decide) (nh_vi rfl) dX6_close_152 ?_
    refine fp6 hx hb ht hown hK hw (zs_m hz) rfl 23 wf6_109 (by decide) rfl rfl rfl rfl dX6_close_155 (fun H locs J2 eJ2 hw => ?_)
    refine lv_iconst (v := 0) hx hb dX6_close_158 (by decide) ?_
    refine lv_istore_n (lv' := [(3, .int 0), (0, .ref (g zM)), (1, .int (P1 zM 18)), (2, .int (nI mn))]) hx hb dX6_close_159 rfl hl (by decide) rfl (fun ls hl => ?_)
    subst eJ2
    refine zw_cl4 hx hb hml ht hown hK hz (P1 zM 18) (nI mn) nw hw2 nw 0 (iu P3 zM 23 (P3 zM 25)) _ _ ls (by omega) hC1 (fun _ _ => trivial) hw (by rw [nI_0]; exact lv_sub hl [1, 2, 3, 0] rfl) (fun H locs ls hw hl => ?_)
    rw [e4] at hw
    have hl : lv_has ls 4 [(0, .ref (g zM)), (1, .int (P1 zM 18)), (2, .int (nI mn)), (3, .int (nI nw))] := hl
    refine lv_aload_n hx hb dX6_close_186 rfl (lv_at hl 0 rfl) ?_
    refine lv_dup hx hb dX6_close_187 rfl ?_
    refine fg6 (v := .int (P4 zM 17)) hx hb ht hown hK hw (zs_m hz) rfl 17 wf6_86 (by decide) (nh_vi rfl) dX6_close_188 ?_
    refine lv_iconst (v := 1) hx hb dX6_close_191 (by decide) ?_
    refine lv_iadd hx hb dX6_close_192 ?_
    refine fp6 hx hb ht hown hK hw (zs_m hz) rfl 17 wf6_86 (by decide) rfl rfl rfl rfl dX6_close_193 (fun H locs J3 eJ3 hw => ?_)
    refine lv_aload_n hx hb dX6_close_196 rfl (lv_at hl 0 rfl) ?_
    refine fg6 (v := .int (P4 zM 18)) hx hb ht hown hK hw (zs_m hz) rfl 18 wf6_95 (by decide) (by simp [nh_v, im_sk, iu_e, zM, zA, eJ3]) dX6_close_197 ?_
    refine lv_iload_n hx hb dX6_close_200 rfl (lv_at hl 1 rfl) ?_
    refine lv_isub hx hb dX6_close_201 ?_
    refine nh_iret hx hb hr rfl hlocks hw (Nat.zero_le _) (Nat.zero_le _) dX6_close_202 ?_
    subst eJ3
    simp only [zf_close, if_neg c6]
    exact im_fin rfl rfl
  · refine lv_bipush (v := (-3)) hx hb dX6_close_9 (by decide) ?_
    refine nh_iret hx hb hr rfl hlocks hw (Nat.zero_le _) (Nat.zero_le _) dX6_close_11 ?_
    simp only [zf_close, if_pos c6]
    exact im_fin rfl rfl
