/-! THE LAW'S START -/
theorem arrR {s : State} {C : String} (h : va_AO C s) : ∃ c : ClassId, ArrOfT s c (.object C) ∧ va_RA s c (.object C) := by
  obtain ⟨comp, c, k, h1, h2, h3, h4, h5⟩ := Cond.arrayOver_spec h
  exact ⟨c, fun n z => ⟨fun k h => (by cases h), k, h3, comp, h4⟩, k, comp, h3, h4, h1, h5⟩
theorem im_start {s : State} {args : Array Value} (hts : ∀ w ∈ lw_tbl, w.before args s = true) : ∃ (D : va_G) (cA : Nat → ClassId), im_K D cA s := by
  have ht : ∀ w ∈ im_ws, w.before args s = true := fun w h => hts w (im_good h).1
  obtain ⟨c0, i0, hk0⟩ := u_known (C := qR0) (T := qT0) (N := 8) (n := 8) ht qL0 (ht _ wn0)
  obtain ⟨c1, i1, hk1⟩ := u_known (C := qR1) (T := qT1) (N := 9) (n := 9) ht qL1 (ht _ wn1)
  obtain ⟨c2, i2, hk2⟩ := u_known (C := qR2) (T := qT2) (N := 2) (n := 2) ht qL2 (ht _ wn2)
  obtain ⟨c3, i3, hk3⟩ := u_known (C := qR3) (T := qT3) (N := 4) (n := 4) ht qL3 (ht _ wn3)
  obtain ⟨c4, i4, hk4⟩ := u_known (C := qR4) (T := qT4) (N := 3) (n := 3) ht qL4 (ht _ wn4)
  obtain ⟨c5, i5, hk5⟩ := u_known (C := qR5) (T := qT5) (N := 9) (n := 9) ht qL5 (ht _ wn5)
  obtain ⟨c6, i6, hk6⟩ := u_known (C := qR6) (T := qT6) (N := 28) (n := 28) ht qL6 (ht _ wn6)
  obtain ⟨cI, kI, compI, hI1, hI2, hI3⟩ := Cond.arrayClass_spec (ht _ wa_int)
  obtain ⟨cZ, kZ, compZ, hZ1, hZ2, hZ3⟩ := Cond.arrayClass_spec (ht _ wa_boolean)
  have ho1 : va_AO qR1 s := va_AO.of (hts _ wo1)
  obtain ⟨r1, hr1⟩ := arrR ho1
  have ho0 : va_AO qR0 s := va_AO.of (hts _ wo0)
  obtain ⟨r0, hr0⟩ := arrR ho0
  have ho3 : va_AO qR3 s := va_AO.of (hts _ wo3)
  obtain ⟨r3, hr3⟩ := arrR ho3
  have ho4 : va_AO qR4 s := va_AO.of (hts _ wo4)
  obtain ⟨r4, hr4⟩ := arrR ho4
  refine ⟨(fun k => if k = 0 then c0 else if k = 1 then c1 else if k = 2 then c2 else if k = 3 then c3 else if k = 4 then c4 else if k = 5 then c5 else c6, fun k => if k = 0 then i0 else if k = 1 then i1 else if k = 2 then i2 else if k = 3 then i3 else if k = 4 then i4 else if k = 5 then i5 else i6), fun t => if t = 0 then cI else if t = 1 then cZ else if t = 2 then r1 else if t = 3 then r0 else if t = 4 then r3 else r4, ⟨?_, ?_⟩, ho1, ho0, ho3, ho4, va_Nw.of rfl (hts _ wq5_29), va_Nw.of rfl (hts _ wq3_50), va_Nw.of rfl (hts _ wq2_19)⟩
  · intro k q hq
    match k, hq with
    | 0, hq => cases hq; exact hk0
    | 1, hq => cases hq; exact hk1
    | 2, hq => cases hq; exact hk2
    | 3, hq => cases hq; exact hk3
    | 4, hq => cases hq; exact hk4
    | 5, hq => cases hq; exact hk5
    | 6, hq => cases hq; exact hk6
    | k + 7, hq => simp [im_cl] at hq
  · intro k q hq
    match k, hq with
    | 0, hq => cases hq; exact ⟨fun n z => ⟨fun k h => (by cases h), kI, hI2, compI, hI3⟩, hI1⟩
    | 1, hq => cases hq; exact ⟨fun n z => ⟨fun k h => (by cases h), kZ, hZ2, compZ, hZ3⟩, hZ1⟩
    | 2, hq => cases hq; exact hr1
    | 3, hq => cases hq; exact hr0
    | 4, hq => cases hq; exact hr3
    | 5, hq => cases hq; exact hr4
    | k + 6, hq => simp [im_tys] at hq
