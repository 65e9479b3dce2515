def zhd (J : nh_N → Nat → Int32) (nb : Nat) : Prop := J zM 23 = nI nb ∧ nb ≤ 200 ∧ ∀ q, q < nb → ∃ i, i < 200 ∧ J (zA 24) q = nI i
/-- one turn of flush, from J to J2 -/
def zflS (J J2 : nh_N → Nat → Int32) : Prop := ∃ nb, zhd J nb ∧ ¬ zf_heldAt J nb 0 < 0 ∧ ¬ 40 ≤ J zM 17 ∧ ∃ (nb2 mn ni nw : Nat) (P1 P2 P3 P4 : nh_N → Nat → Int32), zclOK J nb2 mn ni nw P1 P2 P3 P4 ∧ (zf_close J P1 P4).2 = J2
def zflE (J : nh_N → Nat → Int32) : Prop := ∃ nb, zhd J nb ∧ (zf_heldAt J nb 0 < 0 ∨ 40 ≤ J zM 17)
set_option maxHeartbeats 4000000 in
set_option maxRecDepth 100000 in
theorem zc_flush (l : Launch) (D : va_G) (cA : Nat → ClassId) {S : nh_N → Option nh_C} {g : nh_N → Nat} {J : (nh_N → Nat → Int32)} {R : nh_N → Nat → Option nh_N} (hz : zSh S R) (Z : Nat → (nh_N → Nat → Int32)) (N : Nat) (hZ0 : Z 0 = J) (hT : ∀ t, t < N → zflS (Z t) (Z (t + 1))) (hE : zflE (Z N)) : im_M l D cA yX6_flush vX6_flush 3 76 0 0 [.ref (g zM)] S g J R (im_eq (some (.int (nI N))) S g (Z N) R) := by
  refine nh_of (cc := cX6_flush) (maxL := 3) (ret := (some .int)) (by decide) rfl (Nat.le_of_ble_eq_true rfl) ?_
  intro p e s m below meth c A ls hx hb hr hml hts hown hlocks hin hK hw hl
  have ht : ∀ w ∈ im_ws, w.before _ s = true := fun w h => hts w (List.mem_cons_of_mem _ h)
  have hl : lv_has ls 3 [(0, .ref (g zM))] := hl
  have loop : ∀ (r j : Nat) (ls : Array Slot) (H : Heap) (locs : List Loc), j + r = N → nh_S D im_cl im_sk cA A s.heap S g (Z j) R H locs → lv_has ls 3 [(0, .ref (g zM)), (1, .int (nI j))] → W p l e { frames := 3, cells := 0, slots := 0, locals := 76 } s m ([.ref (g zM)] : List Value).toArray below meth c H locs 0 0 (MQ below (nh_Q D im_cl im_sk cA A (im_eq (some (.int (nI N))) S g (Z N) R)) ([.ref (g zM)] : List Value).toArray s 0 0 A) (F0 m 2 ls []) := by
    intro r
    induction r with
    | zero =>
      intro j ls H locs hj hw hl
      obtain rfl : j = N := by omega
      obtain ⟨nb, ⟨hnb, hb2, hor⟩, hend⟩ := hE
      refine lv_aload_n hx hb dX6_flush_2 rfl (lv_at hl 0 rfl) ?_
      refine lv_iconst (v := 0) hx hb dX6_flush_3 (by decide) ?_
      refine kcX6_heldAt (As := [.int 0]) (rest := []) wm6_123 (zc_heldAt l D cA hz 0 nb hnb hb2 hor) hx hb hml ht hown hK hw (zs_m hz) rfl rfl hl.1 rfl (by simp [Value.category]) ⟨by decide, by decide⟩ ⟨by simp, by simp⟩ dX6_flush_4 (fun v S1 g1 I1 R1 H locs hp hw => ?_)
      obtain ⟨rfl, h1, h2, h3, h4⟩ := hp
      rw [h1, h2, h3, h4] at hw
      clear h1 h2 h3 h4
      show W _ _ _ _ _ _ _ _ _ _ _ _ _ _ _ (F0 m 7 ls [.int (zf_heldAt (Z j) nb 0)])
      refine lv_if_lt (tgt := 30) hx hb dX6_flush_7 (by decide) (fun c7 => ?_) (fun c7 => ?_)
      · refine lv_iload_n hx hb dX6_flush_30 rfl (lv_at hl 1 rfl) ?_
        refine nh_iret hx hb hr rfl hlocks hw (Nat.zero_le _) (Nat.zero_le _) dX6_flush_31 ?_
        exact im_fin rfl rfl
      · refine lv_aload_n hx hb dX6_flush_10 rfl (lv_at hl 0 rfl) ?_
        refine fg6 (v := .int ((Z j) zM 17)) hx hb ht hown hK hw (zs_m hz) rfl 17 wf6_86 (by decide) (nh_vi rfl) dX6_flush_11 ?_
        refine lv_bipush (v := 40) hx hb dX6_flush_14 (by decide) ?_
        refine lv_icmp_ge (tgt := 30) hx hb dX6_flush_16 (by decide) (fun c16 => ?_) (fun c16 => ?_)
        · refine lv_iload_n hx hb dX6_flush_30 rfl (lv_at hl 1 rfl) ?_
          refine nh_iret hx hb hr rfl hlocks hw (Nat.zero_le _) (Nat.zero_le _) dX6_flush_31 ?_
          exact im_fin rfl rfl
        · rcases hend with h | h
          · exact absurd h c7
          · exact absurd h c16
    | succ r ih =>
      intro j ls H locs hj hw hl
      obtain ⟨nb, ⟨hnb, hb2, hor⟩, hs1, hs2, nb2, mn, ni, nw, P1, P2, P3, P4, hcl, hZ⟩ := hT j (by omega)
      refine lv_aload_n hx hb dX6_flush_2 rfl (lv_at hl 0 rfl) ?_
      refine lv_iconst (v := 0) hx hb dX6_flush_3 (by decide) ?_
      refine kcX6_heldAt (As := [.int 0]) (rest := []) wm6_123 (zc_heldAt l D cA hz 0 nb hnb hb2 hor) hx hb hml ht hown hK hw (zs_m hz) rfl rfl hl.1 rfl (by simp [Value.category]) ⟨by decide, by decide⟩ ⟨by simp, by simp⟩ dX6_flush_4 (fun v S1 g1 I1 R1 H locs hp hw => ?_)
      obtain ⟨rfl, h1, h2, h3, h4⟩ := hp
      rw [h1, h2, h3, h4] at hw
      clear h1 h2 h3 h4
      show W _ _ _ _ _ _ _ _ _ _ _ _ _ _ _ (F0 m 7 ls [.int (zf_heldAt (Z j) nb 0)])
      refine lv_if_lt (tgt := 30) hx hb dX6_flush_7 (by decide) (fun c7 => ?_) (fun c7 => ?_)
      · exact absurd c7 hs1
      · refine lv_aload_n hx hb dX6_flush_10 rfl (lv_at hl 0 rfl) ?_
        refine fg6 (v := .int ((Z j) zM 17)) hx hb ht hown hK hw (zs_m hz) rfl 17 wf6_86 (by decide) (nh_vi rfl) dX6_flush_11 ?_
        refine lv_bipush (v := 40) hx hb dX6_flush_14 (by decide) ?_
        refine lv_icmp_ge (tgt := 30) hx hb dX6_flush_16 (by decide) (fun c16 => ?_) (fun c16 => ?_)
        · exact absurd c16 hs2
        · refine lv_aload_n hx hb dX6_flush_19 rfl (lv_at hl 0 rfl) ?_
          refine kcX6_close (As := []) (rest := []) wm6_127 (zc_close l D cA hz nb2 mn ni nw P1 P2 P3 P4 (fun _ => hcl)) hx hb hml ht hown hK hw (zs_m hz) rfl rfl hl.1 rfl (by simp [Value.category]) ⟨by decide, by decide⟩ ⟨by simp, by simp⟩ dX6_flush_20 (fun v S1 g1 J1 R1 H locs hp hw => ?_)
          obtain ⟨rfl, h1, h2, eJ1, h4⟩ := hp
          rw [h1, h2, h4] at hw
          clear h1 h2 h4
          show W _ _ _ _ _ _ _ _ _ _ _ _ _ _ _ (F0 m 23 ls [.int ((zf_close (Z j) P1 P4).1)])
          refine lv_istore_n (lv' := [(2, .int ((zf_close (Z j) P1 P4).1)), (0, .ref (g zM)), (1, .int (nI j))]) hx hb dX6_flush_23 rfl hl (by decide) rfl (fun ls hl => ?_)
          refine lv_iinc (v := (nI j) + 1) (lv' := [(1, .int ((nI j) + 1)), (2, .int ((zf_close (Z j) P1 P4).1)), (0, .ref (g zM))]) hx hb dX6_flush_24 hl (k := 2) rfl rfl (by decide) rfl (fun ls hl => ?_)
          refine lv_goto (tgt := 2) hx hb dX6_flush_27 (by decide) ?_
          rw [hZ] at eJ1
          subst eJ1
          exact ih (j + 1) ls _ _ (by omega) hw (by have h9 := lv_sub hl [2, 0] rfl; rw [nI_1] at h9; exact h9)
  refine lv_iconst (v := 0) hx hb dX6_flush_0 (by decide) ?_
  refine lv_istore_n (lv' := [(1, .int 0), (0, .ref (g zM))]) hx hb dX6_flush_1 rfl hl (by decide) rfl (fun ls hl => ?_)
  exact loop N 0 ls _ _ (by omega) (by rw [hZ0]; exact hw) (by rw [nI_0]; exact lv_sub hl [1, 0] rfl)
def zcd (s : Nat) : Nat := match s with
  | 4 => 2
  | 11 => 2
  | 22 => 2
  | 27 => 2
  | _ => 1
def zln (s : Nat) : Nat := match s with
  | 2 => 8
  | 3 => 8
  | 4 => 8
  | 5 => 8
  | 7 => 200
  | 8 => 200
  | 9 => 200
  | 10 => 200
  | 11 => 200
  | 12 => 200
  | 14 => 300
  | 15 => 300
  | 16 => 300
  | 19 => 9000
  | 20 => 9000
  | 21 => 9000
  | 22 => 9000
  | 24 => 200
  | 26 => 200
  | 27 => 8
  | _ => 0
/-- the object zM with the arrays at the places in L, all 0 -/
def zst (L : List Nat) (S : nh_N → Option nh_C) (I : nh_N → Nat → Int32) (R : nh_N → Nat → Option nh_N) : Prop := S zM = some (0, 6) ∧ (∀ s, s ∈ L → R zM s = some (zA s) ∧ S (zA s) = some (zcd s, zln s) ∧ ∀ j, I (zA s) j = 0) ∧ (∀ s, s ∉ L → S (zA s) = none) ∧ ∀ s, I zM s = 0
theorem zst_step {L : List Nat} {S S1 : nh_N → Option nh_C} {I I1 : nh_N → Nat → Int32} {R R1 R2 : nh_N → Nat → Option nh_N} {s : Nat} (h : zst L S I R) (hs : s ∉ L) (e1 : S1 = nu S (zA s) (some (zcd s, zln s))) (e2 : I1 = nu I (zA s) (fun _ => 0)) (e3 : R1 = nu R (zA s) (fun _ => none)) (e4 : R2 = ru R1 zM s (some (zA s))) : zst (s :: L) S1 I1 R2 := by
  obtain ⟨h1, h2, h3, h4⟩ := h
  subst e1 e2 e3 e4
  have hMs : ∀ t : Nat, (zM : nh_N) ≠ zA t := fun t q => by simp [zM, zA] at q
  refine ⟨by rw [nu_n _ _ (hMs s)]; exact h1, fun t ht => ?_, fun t ht => ?_, fun t => by rw [nu_n _ _ (hMs s)]; exact h4 t⟩
  · by_cases e : t = s
    · subst e
      refine ⟨by rw [ru_e]; simp, by rw [nu_s], fun j => by rw [nu_s]⟩
    · have hne : (zA t : nh_N) ≠ zA s := fun q => e (by simp [zA] at q; exact q)
      rcases List.mem_cons.mp ht with q | q
      · exact absurd q e
      · obtain ⟨a1, a2, a3⟩ := h2 t q
        refine ⟨by rw [ru_e, if_neg (fun q => e q.2), nu_n _ _ (hMs s)]; exact a1, by rw [nu_n _ _ hne]; exact a2, fun j => by rw [nu_n _ _ hne]; exact a3 j⟩
  · have hne : (zA t : nh_N) ≠ zA s := fun q => ht (by simp [zA] at q; rw [q]; exact List.mem_cons_self)
    rw [nu_n _ _ hne]
    exact h3 t (fun q => ht (List.mem_cons_of_mem _ q))
def zroom (a : Int32) : Int32 := if 1 ≤ a then (if a ≤ 30000 then a else 30000) else 1
/-- all is 0 but the room -/
def zini (I : (nh_N → Nat → Int32)) (a : Int32) : Prop := I zM 0 = zroom a ∧ (∀ s, s ≠ 0 → I zM s = 0) ∧ ∀ s, s ∈ ([27, 26, 24, 22, 21, 20, 19, 16, 15, 14, 12, 11, 10, 9, 8, 7, 5, 4, 3, 2] : List Nat) → ∀ j, I (zA s) j = 0
theorem zini_of {S : nh_N → Option nh_C} {I I2 : (nh_N → Nat → Int32)} {R : nh_N → Nat → Option nh_N} {a x : Int32} (h : zst [27, 26, 24, 22, 21, 20, 19, 16, 15, 14, 12, 11, 10, 9, 8, 7, 5, 4, 3, 2] S I R) (e : I2 = iu I zM 0 x) (hx : x = zroom a) : zini I2 a := by
  subst e hx
  refine ⟨by rw [iu_e]; simp, fun s hs => by rw [iu_e, if_neg (fun q => hs q.2)]; exact h.2.2.2 s, fun s hs j => ?_⟩
  rw [iu_e, if_neg (fun q => by have := q.1; simp [zM, zA] at this)]
  exact (h.2.1 s hs).2.2 j
theorem zSh_of {S : nh_N → Option nh_C} {I : (nh_N → Nat → Int32)} {R : nh_N → Nat → Option nh_N} (h : zst [27, 26, 24, 22, 21, 20, 19, 16, 15, 14, 12, 11, 10, 9, 8, 7, 5, 4, 3, 2] S I R) : zSh S R :=
  ⟨h.1, ⟨(h.2.1 2 (by decide)).1, (h.2.1 2 (by decide)).2.1⟩, ⟨(h.2.1 3 (by decide)).1, (h.2.1 3 (by decide)).2.1⟩, ⟨(h.2.1 4 (by decide)).1, (h.2.1 4 (by decide)).2.1⟩, ⟨(h.2.1 5 (by decide)).1, (h.2.1 5 (by decide)).2.1⟩, ⟨(h.2.1 7 (by decide)).1, (h.2.1 7 (by decide)).2.1⟩, ⟨(h.2.1 8 (by decide)).1, (h.2.1 8 (by decide)).2.1⟩, ⟨(h.2.1 9 (by decide)).1, (h.2.1 9 (by decide)).2.1⟩, ⟨(h.2.1 10 (by decide)).1, (h.2.1 10 (by decide)).2.1⟩, ⟨(h.2.1 11 (by decide)).1, (h.2.1 11 (by decide)).2.1⟩, ⟨(h.2.1 12 (by decide)).1, (h.2.1 12 (by decide)).2.1⟩, ⟨(h.2.1 14 (by decide)).1, (h.2.1 14 (by decide)).2.1⟩, ⟨(h.2.1 15 (by decide)).1, (h.2.1 15 (by decide)).2.1⟩, ⟨(h.2.1 16 (by decide)).1, (h.2.1 16 (by decide)).2.1⟩, ⟨(h.2.1 19 (by decide)).1, (h.2.1 19 (by decide)).2.1⟩, ⟨(h.2.1 20 (by decide)).1, (h.2.1 20 (by decide)).2.1⟩, ⟨(h.2.1 21 (by decide)).1, (h.2.1 21 (by decide)).2.1⟩, ⟨(h.2.1 22 (by decide)).1, (h.2.1 22 (by decide)).2.1⟩, ⟨(h.2.1 24 (by decide)).1, (h.2.1 24 (by decide)).2.1⟩, ⟨(h.2.1 26 (by decide)).1, (h.2.1 26 (by decide)).2.1⟩, ⟨(h.2.1 27 (by decide)).1, (h.2.1 27 (by decide)).2.1⟩⟩
set_option maxHeartbeats 8000000 in
set_option maxRecDepth 100000 in
theorem zc_init (l : Launch) (D : va_G) (cA : Nat → ClassId) {S : nh_N → Option nh_C} {g : nh_N → Nat} {I : (nh_N → Nat → Int32)} {R : nh_N → Nat → Option nh_N} (h0 : zst [] S I R) (a : Int32) : im_M l D cA yX6_init vX6_init 1 12 20 38540 [.ref (g zM), .int a] S g I R (fun v S' g' I' R' => v = none ∧ zSh S' R' ∧ g' zM = g zM ∧ zini I' a) := by
  refine nh_of (cc := cX6_init) (maxL := 2) (ret := none) (by decide) rfl (Nat.le_of_ble_eq_true rfl) ?_
  intro p e s m below meth c A ls hx hb hr hml hts hown hlocks hin hK hw hl
  have ht : ∀ w ∈ im_ws, w.before _ s = true := fun w h => hts w (List.mem_cons_of_mem _ h)
  have hl : lv_has ls 2 [(0, .ref (g zM)), (1, .int a)] := hl
  have hA0 : zst [] S I R := h0
  refine lv_aload_n hx hb dX6_init_0 rfl (lv_at hl 0 rfl) ?_
  refine im_objInit hx hb ht hown wm6_1 (by rw [hml]; exact hl.1) (by decide) (by decide) dX6_init_1 ?_
  refine lv_aload_n hx hb dX6_init_4 rfl (lv_at hl 0 rfl) ?_
  refine lv_bipush (v := 8) hx hb dX6_init_5 (by decide) ?_
  refine ai_new (zA 2) ht hx hb hK hw (hA0.2.2.1 2 (by decide)) (by decide) (show _ = 8 from rfl) (by decide) (by decide) (by decide) dX6_init_7 (fun q1 H S1 g1 I1 R1 eS1 eg1 eI1 eR1 hw => ?_)
  have hM1 : S1 zM = some (0, 6) := by rw [eS1, nu_n _ _ (by simp [zM, zA])]; exact hA0.1
  have gM1 : g1 zM = g zM := by rw [eg1, nu_n _ _ (by simp [zM, zA])]
  refine fQ6 hx hb ht hown hK hw hM1 gM1 2 wf6_7 (by decide) rfl hin rfl (some (zA 2)) (fun m hm => ⟨_, by cases hm; rw [eS1, nu_s]⟩) (by simp [va_rf, eg1, nu_s]) rfl rfl rfl dX6_init_9 (fun H locs T1 eT1 hw => ?_)
  have hA1 := zst_step (s := 2) hA0 (by decide) eS1 eI1 eR1 eT1
  clear hA0 eS1 eI1 eR1 eT1 eg1
  refine lv_aload_n hx hb dX6_init_12 rfl (lv_at hl 0 rfl) ?_
  refine lv_bipush (v := 8) hx hb dX6_init_13 (by decide) ?_
  refine ai_new (zA 3) ht hx hb hK hw (hA1.2.2.1 3 (by decide)) (by decide) (show _ = 8 from rfl) (by decide) (by decide) (by decide) dX6_init_15 (fun q2 H S2 g2 I2 R2 eS2 eg2 eI2 eR2 hw => ?_)
  have hM2 : S2 zM = some (0, 6) := by rw [eS2, nu_n _ _ (by simp [zM, zA])]; exact hA1.1
  have gM2 : g2 zM = g zM := by rw [eg2, nu_n _ _ (by simp [zM, zA])]; exact gM1
  refine fQ6 hx hb ht hown hK hw hM2 gM2 3 wf6_13 (by decide) rfl hin rfl (some (zA 3)) (fun m hm => ⟨_, by cases hm; rw [eS2, nu_s]⟩) (by simp [va_rf, eg2, nu_s]) rfl rfl rfl dX6_init_17 (fun H locs T2 eT2 hw => ?_)
  have hA2 := zst_step (s := 3) hA1 (by decide) eS2 eI2 eR2 eT2
  clear hA1 eS2 eI2 eR2 eT2 eg2
  refine lv_aload_n hx hb dX6_init_20 rfl (lv_at hl 0 rfl) ?_
  refine lv_bipush (v := 8) hx hb dX6_init_21 (by decide) ?_
  refine az_new (zA 4) ht hx hb hK hw (hA2.2.2.1 4 (by decide)) (by decide) (show _ = 8 from rfl) (by decide) (by decide) (by decide) dX6_init_23 (fun q3 H S3 g3 I3 R3 eS3 eg3 eI3 eR3 hw => ?_)
  have hM3 : S3 zM = some (0, 6) := by rw [eS3, nu_n _ _ (by simp [zM, zA])]; exact hA2.1
  have gM3 : g3 zM = g zM := by rw [eg3, nu_n _ _ (by simp [zM, zA])]; exact gM2
  refine fQ6 hx hb ht hown hK hw hM3 gM3 4 wf6_16 (by decide) rfl hin rfl (some (zA 4)) (fun m hm => ⟨_, by cases hm; rw [eS3, nu_s]⟩) (by simp [va_rf, eg3, nu_s]) rfl rfl rfl dX6_init_25 (fun H locs T3 eT3 hw => ?_)
  have hA3 := zst_step (s := 4) hA2 (by decide) eS3 eI3 eR3 eT3
  clear hA2 eS3 eI3 eR3 eT3 eg3
  refine lv_aload_n hx hb dX6_init_28 rfl (lv_at hl 0 rfl) ?_
  refine lv_bipush (v := 8) hx hb dX6_init_29 (by decide) ?_
  refine ai_new (zA 5) ht hx hb hK hw (hA3.2.2.1 5 (by decide)) (by decide) (show _ = 8 from rfl) (by decide) (by decide) (by decide) dX6_init_31 (fun q4 H S4 g4 I4 R4 eS4 eg4 eI4 eR4 hw => ?_)
  have hM4 : S4 zM = some (0, 6) := by rw [eS4, nu_n _ _ (by simp [zM, zA])]; exact hA3.1
  have gM4 : g4 zM = g zM := by rw [eg4, nu_n _ _ (by simp [zM, zA])]; exact gM3
  refine fQ6 hx hb ht hown hK hw hM4 gM4 5 wf6_20 (by decide) rfl hin rfl (some (zA 5)) (fun m hm => ⟨_, by cases hm; rw [eS4, nu_s]⟩) (by simp [va_rf, eg4, nu_s]) rfl rfl rfl dX6_init_33 (fun H locs T4 eT4 hw => ?_)
  have hA4 := zst_step (s := 5) hA3 (by decide) eS4 eI4 eR4 eT4
  clear hA3 eS4 eI4 eR4 eT4 eg4
  refine lv_aload_n hx hb dX6_init_36 rfl (lv_at hl 0 rfl) ?_
  refine lv_sipush (v := 200) hx hb dX6_init_37 (by decide) ?_
  refine ai_new (zA 7) ht hx hb hK hw (hA4.2.2.1 7 (by decide)) (by decide) (show _ = 200 from rfl) (by decide) (by decide) (by decide) dX6_init_40 (fun q5 H S5 g5 I5 R5 eS5 eg5 eI5 eR5 hw => ?_)
  have hM5 : S5 zM = some (0, 6) := by rw [eS5, nu_n _ _ (by simp [zM, zA])]; exact hA4.1
  have gM5 : g5 zM = g zM := by rw [eg5, nu_n _ _ (by simp [zM, zA])]; exact gM4
  refine fQ6 hx hb ht hown hK hw hM5 gM5 7 wf6_23 (by decide) rfl hin rfl (some (zA 7)) (fun m hm => ⟨_, by cases hm; rw [eS5, nu_s]⟩) (by simp [va_rf, eg5, nu_s]) rfl rfl rfl dX6_init_42 (fun H locs T5 eT5 hw => ?_)
  have hA5 := zst_step (s := 7) hA4 (by decide) eS5 eI5 eR5 eT5
  clear hA4 eS5 eI5 eR5 eT5 eg5
  refine lv_aload_n hx hb dX6_init_45 rfl (lv_at hl 0 rfl) ?_
  refine lv_sipush (v := 200) hx hb dX6_init_46 (by decide) ?_
  refine ai_new (zA 8) ht hx hb hK hw (hA5.2.2.1 8 (by decide)) (by decide) (show _ = 200 from rfl) (by decide) (by decide) (by decide) dX6_init_49 (fun q6 H S6 g6 I6 R6 eS6 eg6 eI6 eR6 hw => ?_)
  have hM6 : S6 zM = some (0, 6) := by rw [eS6, nu_n _ _ (by simp [zM, zA])]; exact hA5.1
  have gM6 : g6 zM = g zM := by rw [eg6, nu_n _ _ (by simp [zM, zA])]; exact gM5
  refine fQ6 hx hb ht hown hK hw hM6 gM6 8 wf6_26 (by decide) rfl hin rfl (some (zA 8)) (fun m hm => ⟨_, by cases hm; rw [eS6, nu_s]⟩) (by simp [va_rf, eg6, nu_s]) rfl rfl rfl dX6_init_51 (fun H locs T6 eT6 hw => ?_)
  have hA6 := zst_step (s := 8) hA5 (by decide) eS6 eI6 eR6 eT6
  clear hA5 eS6 eI6 eR6 eT6 eg6
  refine lv_aload_n hx hb dX6_init_54 rfl (lv_at hl 0 rfl) ?_
  refine lv_sipush (v := 200) hx hb dX6_init_55 (by decide) ?_
  refine ai_new (zA 9) ht hx hb hK hw (hA6.2.2.1 9 (by decide)) (by decide) (show _ = 200 from rfl) (by decide) (by decide) (by decide) dX6_init_58 (fun q7 H S7 g7 I7 R7 eS7 eg7 eI7 eR7 hw => ?_)
  have hM7 : S7 zM = some (0, 6) := by rw [eS7, nu_n _ _ (by simp [zM, zA])]; exact hA6.1
  have gM7 : g7 zM = g zM := by rw [eg7, nu_n _ _ (by simp [zM, zA])]; exact gM6
  refine fQ6 hx hb ht hown hK hw hM7 gM7 9 wf6_29 (by decide) rfl hin rfl (some (zA 9)) (fun m hm => ⟨_, by cases hm; rw [eS7, nu_s]⟩) (by simp [va_rf, eg7, nu_s]) rfl rfl rfl dX6_init_60 (fun H locs T7 eT7 hw => ?_)
  have hA7 := zst_step (s := 9) hA6 (by decide) eS7 eI7 eR7 eT7
  clear hA6 eS7 eI7 eR7 eT7 eg7
  refine lv_aload_n hx hb dX6_init_63 rfl (lv_at hl 0 rfl) ?_
  refine lv_sipush (v := 200) hx hb dX6_init_64 (by decide) ?_
  refine ai_new (zA 10) ht hx hb hK hw (hA7.2.2.1 10 (by decide)) (by decide) (show _ = 200 from rfl) (by decide) (by decide) (by decide) dX6_init_67 (fun q8 H S8 g8 I8 R8 eS8 eg8 eI8 eR8 hw => ?_)
  have hM8 : S8 zM = some (0, 6) := by rw [eS8, nu_n _ _ (by simp [zM, zA])]; exact hA7.1
  have gM8 : g8 zM = g zM := by rw [eg8, nu_n _ _ (by simp [zM, zA])]; exact gM7
  refine fQ6 hx hb ht hown hK hw hM8 gM8 10 wf6_32 (by decide) rfl hin rfl (some (zA 10)) (fun m hm => ⟨_, by cases hm; rw [eS8, nu_s]⟩) (by simp [va_rf, eg8, nu_s]) rfl rfl rfl dX6_init_69 (fun H locs T8 eT8 hw => ?_)
  have hA8 := zst_step (s := 10) hA7 (by decide) eS8 eI8 eR8 eT8
  clear hA7 eS8 eI8 eR8 eT8 eg8
  refine lv_aload_n hx hb dX6_init_72 rfl (lv_at hl 0 rfl) ?_
  refine lv_sipush (v := 200) hx hb dX6_init_73 (by decide) ?_
  refine az_new (zA 11) ht hx hb hK hw (hA8.2.2.1 11 (by decide)) (by decide) (show _ = 200 from rfl) (by decide) (by decide) (by decide) dX6_init_76 (fun q9 H S9 g9 I9 R9 eS9 eg9 eI9 eR9 hw => ?_)
  have hM9 : S9 zM = some (0, 6) := by rw [eS9, nu_n _ _ (by simp [zM, zA])]; exact hA8.1
  have gM9 : g9 zM = g zM := by rw [eg9, nu_n _ _ (by simp [zM, zA])]; exact gM8
  refine fQ6 hx hb ht hown hK hw hM9 gM9 11 wf6_35 (by decide) rfl hin rfl (some (zA 11)) (fun m hm => ⟨_, by cases hm; rw [eS9, nu_s]⟩) (by simp [va_rf, eg9, nu_s]) rfl rfl rfl dX6_init_78 (fun H locs T9 eT9 hw => ?_)
  have hA9 := zst_step (s := 11) hA8 (by decide) eS9 eI9 eR9 eT9
  clear hA8 eS9 eI9 eR9 eT9 eg9
  refine lv_aload_n hx hb dX6_init_81 rfl (lv_at hl 0 rfl) ?_
  refine lv_sipush (v := 200) hx hb dX6_init_82 (by decide) ?_
  refine ai_new (zA 12) ht hx hb hK hw (hA9.2.2.1 12 (by decide)) (by decide) (show _ = 200 from rfl) (by decide) (by decide) (by decide) dX6_init_85 (fun q10 H S10 g10 I10 R10 eS10 eg10 eI10 eR10 hw => ?_)
  have hM10 : S10 zM = some (0, 6) := by rw [eS10, nu_n _ _ (by simp [zM, zA])]; exact hA9.1
  have gM10 : g10 zM = g zM := by rw [eg10, nu_n _ _ (by simp [zM, zA])]; exact gM9
  refine fQ6 hx hb ht hown hK hw hM10 gM10 12 wf6_38 (by decide) rfl hin rfl (some (zA 12)) (fun m hm => ⟨_, by cases hm; rw [eS10, nu_s]⟩) (by simp [va_rf, eg10, nu_s]) rfl rfl rfl dX6_init_87 (fun H locs T10 eT10 hw => ?_)
  have hA10 := zst_step (s := 12) hA9 (by decide) eS10 eI10 eR10 eT10
  clear hA9 eS10 eI10 eR10 eT10 eg10
  refine lv_aload_n hx hb dX6_init_90 rfl (lv_at hl 0 rfl) ?_
  refine lv_sipush (v := 300) hx hb dX6_init_91 (by decide) ?_
  refine ai_new (zA 14) ht hx hb hK hw (hA10.2.2.1 14 (by decide)) (by decide) (show _ = 300 from rfl) (by decide) (by decide) (by decide) dX6_init_94 (fun q11 H S11 g11 I11 R11 eS11 eg11 eI11 eR11 hw => ?_)
  have hM11 : S11 zM = some (0, 6) := by rw [eS11, nu_n _ _ (by simp [zM, zA])]; exact hA10.1
  have gM11 : g11 zM = g zM := by rw [eg11, nu_n _ _ (by simp [zM, zA])]; exact gM10
  refine fQ6 hx hb ht hown hK hw hM11 gM11 14 wf6_41 (by decide) rfl hin rfl (some (zA 14)) (fun m hm => ⟨_, by cases hm; rw [eS11, nu_s]⟩) (by simp [va_rf, eg11, nu_s]) rfl rfl rfl dX6_init_96 (fun H locs T11 eT11 hw => ?_)
  have hA11 := zst_step (s := 14) hA10 (by decide) eS11 eI11 eR11 eT11
  clear hA10 eS11 eI11 eR11 eT11 eg11
  refine lv_aload_n hx hb dX6_init_99 rfl (lv_at hl 0 rfl) ?_
  refine lv_sipush (v := 300) hx hb dX6_init_100 (by decide) ?_
  refine ai_new (zA 15) ht hx hb hK hw (hA11.2.2.1 15 (by decide)) (by decide) (show _ = 300 from rfl) (by decide) (by decide) (by decide) dX6_init_103 (fun q12 H S12 g12 I12 R12 eS12 eg12 eI12 eR12 hw => ?_)
  have hM12 : S12 zM = some (0, 6) := by rw [eS12, nu_n _ _ (by simp [zM, zA])]; exact hA11.1
  have gM12 : g12 zM = g zM := by rw [eg12, nu_n _ _ (by simp [zM, zA])]; exact gM11
  refine fQ6 hx hb ht hown hK hw hM12 gM12 15 wf6_44 (by decide) rfl hin rfl (some (zA 15)) (fun m hm => ⟨_, by cases hm; rw [eS12, nu_s]⟩) (by simp [va_rf, eg12, nu_s]) rfl rfl rfl dX6_init_105 (fun H locs T12 eT12 hw => ?_)
  have hA12 := zst_step (s := 15) hA11 (by decide) eS12 eI12 eR12 eT12
  clear hA11 eS12 eI12 eR12 eT12 eg12
  refine lv_aload_n hx hb dX6_init_108 rfl (lv_at hl 0 rfl) ?_
  refine lv_sipush (v := 300) hx hb dX6_init_109 (by decide) ?_
  refine ai_new (zA 16) ht hx hb hK hw (hA12.2.2.1 16 (by decide)) (by decide) (show _ = 300 from rfl) (by decide) (by decide) (by decide) dX6_init_112 (fun q13 H S13 g13 I13 R13 eS13 eg13 eI13 eR13 hw => ?_)
  have hM13 : S13 zM = some (0, 6) := by rw [eS13, nu_n _ _ (by simp [zM, zA])]; exact hA12.1
  have gM13 : g13 zM = g zM := by rw [eg13, nu_n _ _ (by simp [zM, zA])]; exact gM12
  refine fQ6 hx hb ht hown hK hw hM13 gM13 16 wf6_47 (by decide) rfl hin rfl (some (zA 16)) (fun m hm => ⟨_, by cases hm; rw [eS13, nu_s]⟩) (by simp [va_rf, eg13, nu_s]) rfl rfl rfl dX6_init_114 (fun H locs T13 eT13 hw => ?_)
  have hA13 := zst_step (s := 16) hA12 (by decide) eS13 eI13 eR13 eT13
  clear hA12 eS13 eI13 eR13 eT13 eg13
  refine lv_aload_n hx hb dX6_init_117 rfl (lv_at hl 0 rfl) ?_
  refine lv_sipush (v := 9000) hx hb dX6_init_118 (by decide) ?_
  refine ai_new (zA 19) ht hx hb hK hw (hA13.2.2.1 19 (by decide)) (by decide) (show _ = 9000 from rfl) (by decide) (by decide) (by decide) dX6_init_121 (fun q14 H S14 g14 I14 R14 eS14 eg14 eI14 eR14 hw => ?_)
  have hM14 : S14 zM = some (0, 6) := by rw [eS14, nu_n _ _ (by simp [zM, zA])]; exact hA13.1
  have gM14 : g14 zM = g zM := by rw [eg14, nu_n _ _ (by simp [zM, zA])]; exact gM13
  refine fQ6 hx hb ht hown hK hw hM14 gM14 19 wf6_50 (by decide) rfl hin rfl (some (zA 19)) (fun m hm => ⟨_, by cases hm; rw [eS14, nu_s]⟩) (by simp [va_rf, eg14, nu_s]) rfl rfl rfl dX6_init_123 (fun H locs T14 eT14 hw => ?_)
  have hA14 := zst_step (s := 19) hA13 (by decide) eS14 eI14 eR14 eT14
  clear hA13 eS14 eI14 eR14 eT14 eg14
  refine lv_aload_n hx hb dX6_init_126 rfl (lv_at hl 0 rfl) ?_
  refine lv_sipush (v := 9000) hx hb dX6_init_127 (by decide) ?_
  refine ai_new (zA 20) ht hx hb hK hw (hA14.2.2.1 20 (by decide)) (by decide) (show _ = 9000 from rfl) (by decide) (by decide) (by decide) dX6_init_130 (fun q15 H S15 g15 I15 R15 eS15 eg15 eI15 eR15 hw => ?_)
  have hM15 : S15 zM = some (0, 6) := by rw [eS15, nu_n _ _ (by simp [zM, zA])]; exact hA14.1
  have gM15 : g15 zM = g zM := by rw [eg15, nu_n _ _ (by simp [zM, zA])]; exact gM14
  refine fQ6 hx hb ht hown hK hw hM15 gM15 20 wf6_53 (by decide) rfl hin rfl (some (zA 20)) (fun m hm => ⟨_, by cases hm; rw [eS15, nu_s]⟩) (by simp [va_rf, eg15, nu_s]) rfl rfl rfl dX6_init_132 (fun H locs T15 eT15 hw => ?_)
  have hA15 := zst_step (s := 20) hA14 (by decide) eS15 eI15 eR15 eT15
  clear hA14 eS15 eI15 eR15 eT15 eg15
  refine lv_aload_n hx hb dX6_init_135 rfl (lv_at hl 0 rfl) ?_
  refine lv_sipush (v := 9000) hx hb dX6_init_136 (by decide) ?_
  refine ai_new (zA 21) ht hx hb hK hw (hA15.2.2.1 21 (by decide)) (by decide) (show _ = 9000 from rfl) (by decide) (by decide) (by decide) dX6_init_139 (fun q16 H S16 g16 I16 R16 eS16 eg16 eI16 eR16 hw => ?_)
  have hM16 : S16 zM = some (0, 6) := by rw [eS16, nu_n _ _ (by simp [zM, zA])]; exact hA15.1
  have gM16 : g16 zM = g zM := by rw [eg16, nu_n _ _ (by simp [zM, zA])]; exact gM15
  refine fQ6 hx hb ht hown hK hw hM16 gM16 21 wf6_56 (by decide) rfl hin rfl (some (zA 21)) (fun m hm => ⟨_, by cases hm; rw [eS16, nu_s]⟩) (by simp [va_rf, eg16, nu_s]) rfl rfl rfl dX6_init_141 (fun H locs T16 eT16 hw => ?_)
  have hA16 := zst_step (s := 21) hA15 (by decide) eS16 eI16 eR16 eT16
  clear hA15 eS16 eI16 eR16 eT16 eg16
  refine lv_aload_n hx hb dX6_init_144 rfl (lv_at hl 0 rfl) ?_
  refine lv_sipush (v := 9000) hx hb dX6_init_145 (by decide) ?_
  refine az_new (zA 22) ht hx hb hK hw (hA16.2.2.1 22 (by decide)) (by decide) (show _ = 9000 from rfl) (by decide) (by decide) (by decide) dX6_init_148 (fun q17 H S17 g17 I17 R17 eS17 eg17 eI17 eR17 hw => ?_)
  have hM17 : S17 zM = some (0, 6) := by rw [eS17, nu_n _ _ (by simp [zM, zA])]; exact hA16.1
  have gM17 : g17 zM = g zM := by rw [eg17, nu_n _ _ (by simp [zM, zA])]; exact gM16
  refine fQ6 hx hb ht hown hK hw hM17 gM17 22 wf6_59 (by decide) rfl hin rfl (some (zA 22)) (fun m hm => ⟨_, by cases hm; rw [eS17, nu_s]⟩) (by simp [va_rf, eg17, nu_s]) rfl rfl rfl dX6_init_150 (fun H locs T17 eT17 hw => ?_)
  have hA17 := zst_step (s := 22) hA16 (by decide) eS17 eI17 eR17 eT17
  clear hA16 eS17 eI17 eR17 eT17 eg17
  refine lv_aload_n hx hb dX6_init_153 rfl (lv_at hl 0 rfl) ?_
  refine lv_sipush (v := 200) hx hb dX6_init_154 (by decide) ?_
  refine ai_new (zA 24) ht hx hb hK hw (hA17.2.2.1 24 (by decide)) (by decide) (show _ = 200 from rfl) (by decide) (by decide) (by decide) dX6_init_157 (fun q18 H S18 g18 I18 R18 eS18 eg18 eI18 eR18 hw => ?_)
  have hM18 : S18 zM = some (0, 6) := by rw [eS18, nu_n _ _ (by simp [zM, zA])]; exact hA17.1
  have gM18 : g18 zM = g zM := by rw [eg18, nu_n _ _ (by simp [zM, zA])]; exact gM17
  refine fQ6 hx hb ht hown hK hw hM18 gM18 24 wf6_62 (by decide) rfl hin rfl (some (zA 24)) (fun m hm => ⟨_, by cases hm; rw [eS18, nu_s]⟩) (by simp [va_rf, eg18, nu_s]) rfl rfl rfl dX6_init_159 (fun H locs T18 eT18 hw => ?_)
  have hA18 := zst_step (s := 24) hA17 (by decide) eS18 eI18 eR18 eT18
  clear hA17 eS18 eI18 eR18 eT18 eg18
  refine lv_aload_n hx hb dX6_init_162 rfl (lv_at hl 0 rfl) ?_
  refine lv_sipush (v := 200) hx hb dX6_init_163 (by decide) ?_
  refine ai_new (zA 26) ht hx hb hK hw (hA18.2.2.1 26 (by decide)) (by decide) (show _ = 200 from rfl) (by decide) (by decide) (by decide) dX6_init_166 (fun q19 H S19 g19 I19 R19 eS19 eg19 eI19 eR19 hw => ?_)
  have hM19 : S19 zM = some (0, 6) := by rw [eS19, nu_n _ _ (by simp [zM, zA])]; exact hA18.1
  have gM19 : g19 zM = g zM := by rw [eg19, nu_n _ _ (by simp [zM, zA])]; exact gM18
  refine fQ6 hx hb ht hown hK hw hM19 gM19 26 wf6_65 (by decide) rfl hin rfl (some (zA 26)) (fun m hm => ⟨_, by cases hm; rw [eS19, nu_s]⟩) (by simp [va_rf, eg19, nu_s]) rfl rfl rfl dX6_init_168 (fun H locs T19 eT19 hw => ?_)
  have hA19 := zst_step (s := 26) hA18 (by decide) eS19 eI19 eR19 eT19
  clear hA18 eS19 eI19 eR19 eT19 eg19
  refine lv_aload_n hx hb dX6_init_171 rfl (lv_at hl 0 rfl) ?_
  refine lv_bipush (v := 8) hx hb dX6_init_172 (by decide) ?_
  refine az_new (zA 27) ht hx hb hK hw (hA19.2.2.1 27 (by decide)) (by decide) (show _ = 8 from rfl) (by decide) (by decide) (by decide) dX6_init_174 (fun q20 H S20 g20 I20 R20 eS20 eg20 eI20 eR20 hw => ?_)
  have hM20 : S20 zM = some (0, 6) := by rw [eS20, nu_n _ _ (by simp [zM, zA])]; exact hA19.1
  have gM20 : g20 zM = g zM := by rw [eg20, nu_n _ _ (by simp [zM, zA])]; exact gM19
  refine fQ6 hx hb ht hown hK hw hM20 gM20 27 wf6_68 (by decide) rfl hin rfl (some (zA 27)) (fun m hm => ⟨_, by cases hm; rw [eS20, nu_s]⟩) (by simp [va_rf, eg20, nu_s]) rfl rfl rfl dX6_init_176 (fun H locs T20 eT20 hw => ?_)
  have hA20 := zst_step (s := 27) hA19 (by decide) eS20 eI20 eR20 eT20
  clear hA19 eS20 eI20 eR20 eT20 eg20
  refine lv_aload_n hx hb dX6_init_179 rfl (lv_at hl 0 rfl) ?_
  have hM := hA20.1
  have hz9 : zSh S20 T20 := zSh_of hA20
  refine lv_iload_n hx hb dX6_init_180 rfl (lv_at hl 1 rfl) ?_
  refine lv_iconst (v := 1) hx hb dX6_init_181 (by decide) ?_
  refine lv_icmp_ge (tgt := 189) hx hb dX6_init_182 (by decide) (fun c182 => ?_) (fun c182 => ?_)
  · refine lv_iload_n hx hb dX6_init_189 rfl (lv_at hl 1 rfl) ?_
    refine lv_sipush (v := 30000) hx hb dX6_init_190 (by decide) ?_
    refine lv_icmp_le (tgt := 202) hx hb dX6_init_193 (by decide) (fun c193 => ?_) (fun c193 => ?_)
    · refine lv_iload_n hx hb dX6_init_202 rfl (lv_at hl 1 rfl) ?_
      refine fP6 hx hb ht hown hK hw hM gM20 0 wf6_71 (by decide) rfl hin rfl rfl rfl rfl dX6_init_203 (fun H locs I99 eI99 hw => ?_)
      refine nh_vret hx hb hr hlocks hw (by decide) (by decide) dX6_init_206 ?_
      exact ⟨rfl, hz9, gM20, (zini_of hA20 eI99 (by simp only [zroom, if_pos c182, if_pos c193]))⟩
    · refine lv_sipush (v := 30000) hx hb dX6_init_196 (by decide) ?_
      refine lv_goto (tgt := 203) hx hb dX6_init_199 (by decide) ?_
      refine fP6 hx hb ht hown hK hw hM gM20 0 wf6_71 (by decide) rfl hin rfl rfl rfl rfl dX6_init_203 (fun H locs I99 eI99 hw => ?_)
      refine nh_vret hx hb hr hlocks hw (by decide) (by decide) dX6_init_206 ?_
      exact ⟨rfl, hz9, gM20, (zini_of hA20 eI99 (by simp only [zroom, if_pos c182, if_neg c193]))⟩
  · refine lv_iconst (v := 1) hx hb dX6_init_185 (by decide) ?_
    refine lv_goto (tgt := 203) hx hb dX6_init_186 (by decide) ?_
    refine fP6 hx hb ht hown hK hw hM gM20 0 wf6_71 (by decide) rfl hin rfl rfl rfl rfl dX6_init_203 (fun H locs I99 eI99 hw => ?_)
    refine nh_vret hx hb hr hlocks hw (by decide) (by decide) dX6_init_206 ?_
    exact ⟨rfl, hz9, gM20, (zini_of hA20 eI99 (by simp only [zroom, if_neg c182]))⟩
