/-! PURE: at the start -/
theorem zroom_x (a : Int32) : (if 1 < (if 30000 < a then 30000 else a) then (if 30000 < a then 30000 else a) else 1) = zroom a ∧ ∃ pr, zroom a = nI pr ∧ 1 ≤ pr ∧ pr ≤ 30000 := by
  unfold zroom
  have e1 : (1 : Int32).toInt = 1 := by decide
  have e3 : (30000 : Int32).toInt = 30000 := by decide
  by_cases h1 : 30000 < a
  · have h1' := Int32.lt_iff_toInt_lt.mp h1
    rw [e3] at h1'
    rw [if_pos h1, if_pos (show (1 : Int32) < 30000 by decide), if_pos (Int32.le_iff_toInt_le.mpr (by rw [e1]; omega)), if_neg (fun w => by have := Int32.le_iff_toInt_le.mp w; rw [e3] at this; omega)]
    exact ⟨rfl, 30000, rfl, by omega, by omega⟩
  · have h1' : ¬ (30000 : Int) < a.toInt := fun w => h1 (Int32.lt_iff_toInt_lt.mpr (by rw [e3]; exact w))
    rw [if_neg h1]
    by_cases h2 : 1 < a
    · have h2' := Int32.lt_iff_toInt_lt.mp h2
      rw [e1] at h2'
      rw [if_pos h2, if_pos (Int32.le_iff_toInt_le.mpr (by rw [e1]; omega)), if_pos (Int32.le_iff_toInt_le.mpr (by rw [e3]; omega))]
      refine ⟨rfl, ?_⟩
      obtain ⟨r, hr, rfl⟩ := nI_of (x := a) (fun w => by have := Int32.lt_iff_toInt_lt.mp w; rw [Int32.toInt_zero] at this; omega)
      rw [nI_toInt hr] at h2' h1'
      exact ⟨r, rfl, by omega, by omega⟩
    · have h2' : ¬ (1 : Int) < a.toInt := fun w => h2 (Int32.lt_iff_toInt_lt.mpr (by rw [e1]; exact w))
      rw [if_neg h2]
      by_cases h3 : 1 ≤ a
      · have h3' := Int32.le_iff_toInt_le.mp h3
        rw [e1] at h3'
        rw [if_pos h3, if_pos (Int32.le_iff_toInt_le.mpr (by rw [e3]; omega))]
        have : a = 1 := Int32.toInt_inj.mp (by rw [e1]; omega)
        rw [this]
        exact ⟨rfl, 1, rfl, by omega, by omega⟩
      · rw [if_neg h3]; exact ⟨rfl, 1, rfl, by omega, by omega⟩
theorem xh_init (a : Int32) (g g2 : nh_N → Nat) (S2 : nh_N → Option nh_C) (J : nh_N → Nat → Int32) (R2 : nh_N → Nat → Option nh_N) (hz : zSh S2 R2) (hJ : zini J a) : xSim 0 (xS_new (nu (fun _ => none) xX (some (0, 5)))) g (nu (xI_new (nu (fun _ _ => 0) xX (fun _ => 0)) a) zM (fun _ => 0)) (nu (xR_new (nu (fun _ _ => none) xX (fun _ => none))) zM (fun _ => none)) S2 g2 J R2 := by
  obtain ⟨j1, j2, j3⟩ := hJ
  obtain ⟨r1, r2⟩ := zroom_x a
  generalize hI : nu (xI_new (nu (fun _ _ => 0) xX (fun _ => 0)) a) zM (fun _ => 0) = I
  have i0 : I xX 0 = zroom a := by rw [← hI, ← r1]; simp [xI_new, nu, iu_e]
  have io : ∀ s, s ≠ 0 → I xX s = 0 := fun s hs => by rw [← hI]; simp [xI_new, nu, iu_e, hs]
  have il : I xLN 1 = 0 := by rw [← hI]; simp [xI_new, nu, iu_e]
  refine ⟨0, 0, 0, 0, 0, fun _ => 0, fun _ => 0, fun _ => 0, fun _ => 0, ?_, ?_, hz, ?_, ?_, ?_, ?_, ?_, ?_, ?_, ?_⟩
  · refine ⟨?_, fun j _ => ?_, fun k hk => by omega, fun j _ => ?_, fun k hk => by omega, fun j _ => ?_, fun k hk => by omega, by omega, by omega, by omega⟩
    · simp [xXs, xLs, xS_new, xR_new, nu, ru_e]
    · simp [xR_new, nu, ru_e]
    · simp [xR_new, nu, ru_e]
    · simp [xR_new, nu, ru_e]
  · refine ⟨fun k _ => ?_, fun i _ => ?_, fun q _ => ?_⟩
    · simp [xS_new, nu]
    · simp [xS_new, nu]
    · simp [xS_new, nu]
  · unfold xNum
    rw [i0, j1, io 5 (by omega), io 6 (by omega), io 7 (by omega), io 8 (by omega), j2 1 (by omega), j2 6 (by omega), j2 13 (by omega), j2 17 (by omega), j2 18 (by omega), j2 23 (by omega)]
    exact ⟨rfl, r2, rfl, rfl, rfl, rfl, rfl, rfl, by omega, rfl, rfl, rfl, by omega, rfl, by omega⟩
  · exact ⟨fun k hk => by omega, fun k _ _ => j3 5 (by decide) k⟩
  · exact ⟨fun i hi => by omega, fun i _ _ => ⟨j3 11 (by decide) i, j3 12 (by decide) i⟩⟩
  · exact ⟨rfl, fun q hq => by omega, rfl, fun t ht => by omega, fun q hq => by omega⟩
  · exact ⟨fun q hq => by omega, fun k hk => by omega⟩
  · exact ⟨fun k hk => by omega, fun t ht => by omega⟩
  · exact ⟨fun q hq => by omega, fun q q' hq => by omega, fun i t hi => by omega⟩
  · exact ⟨il, fun t i ht => by cases ht⟩
