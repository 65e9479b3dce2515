section
/-! NAMED HEAPS: every cell that a system has bears a name (a kind and two numbers); S: which names there are, and what they are (0, number of its sort of object), or (t + 1, length) for an array of the t-th array type; g: their addresses; I: their ints; R: their references, by name. -/
abbrev nh_N : Type := Nat × Nat × Nat
abbrev nh_C : Type := Nat × Nat
def nu {α : Type} (f : nh_N → α) (n : nh_N) (v : α) : nh_N → α := fun m => if m = n then v else f m
theorem nu_s {α : Type} (f : nh_N → α) (n : nh_N) (v : α) : nu f n v n = v := by simp [nu]
theorem nu_n {α : Type} (f : nh_N → α) {n m : nh_N} (v : α) (h : m ≠ n) : nu f n v m = f m := by simp [nu, h]
def iu (I : nh_N → Nat → Int32) (n : nh_N) (k : Nat) (x : Int32) : nh_N → Nat → Int32 := nu I n (upd (I n) k x)
def ru (R : nh_N → Nat → Option nh_N) (n : nh_N) (k : Nat) (x : Option nh_N) : nh_N → Nat → Option nh_N := nu R n (va_up (R n) k x)
theorem iu_e (I : nh_N → Nat → Int32) (n : nh_N) (k : Nat) (x : Int32) (m : nh_N) (j : Nat) : iu I n k x m j = if m = n ∧ j = k then x else I m j := by
  by_cases h : m = n
  · subst h
    simp [iu, nu, upd]
  · simp [iu, nu, h]
theorem ru_e (R : nh_N → Nat → Option nh_N) (n : nh_N) (k : Nat) (x : Option nh_N) (m : nh_N) (j : Nat) : ru R n k x m j = if m = n ∧ j = k then x else R m j := by
  by_cases h : m = n
  · subst h
    simp [ru, nu, va_up]
  · simp [ru, nu, h]
def nh_v (g : nh_N → Nat) (i : Nat → Int32) (r : Nat → Option nh_N) (b : Bool) (k : Nat) : Value := if b = true then va_rf ((r k).map g) else .int (i k)
theorem nh_vi {g : nh_N → Nat} {i : Nat → Int32} {r : Nat → Option nh_N} {b : Bool} {k : Nat} (hb : b = false) : nh_v g i r b k = .int (i k) := by simp [nh_v, hb]
theorem nh_vr {g : nh_N → Nat} {i : Nat → Int32} {r : Nat → Option nh_N} {b : Bool} {k : Nat} {m : nh_N} (hb : b = true) (hr : r k = some m) : nh_v g i r b k = .ref (g m) := by simp [nh_v, hb, hr, va_rf]
theorem nh_vn {g : nh_N → Nat} {i : Nat → Int32} {r : Nat → Option nh_N} {b : Bool} {k : Nat} (hb : b = true) (hr : r k = none) : nh_v g i r b k = .null := by simp [nh_v, hb, hr, va_rf]
def nh_at (D : va_G) (cl : List vw_C) (sk : Nat → Nat → Bool) (cA : Nat → ClassId) (g : nh_N → Nat) (i : Nat → Int32) (r : Nat → Option nh_N) (c : nh_C) (a : Nat) (H : Heap) : Prop := match c with
  | (0, ci) => ∃ q : vw_C, cl[ci]? = some q ∧ t_OB a (D.1 ci) q.2.2 (D.2 ci) H (fun k => nh_v g i r (sk ci k) k)
  | (1, n) => H[a]? = some (arrV (cA 0) n (fun j => .int (i j)))
  | (2, n) => H[a]? = some (arrV (cA 1) n (fun j => .int (i j)))
  | (t + 3, n) => H[a]? = some (arrV (cA (t + 2)) n (fun j => va_rf ((r j).map g)))
theorem nh_at.kept {D : va_G} {cl : List vw_C} {sk : Nat → Nat → Bool} {cA : Nat → ClassId} {g : nh_N → Nat} {i : Nat → Int32} {r : Nat → Option nh_N} {c : nh_C} {a : Nat} {H H1 : Heap} (h : nh_at D cl sk cA g i r c a H) (hq : H1[a]? = H[a]?) : nh_at D cl sk cA g i r c a H1 := by
  match c, h with
  | (0, ci), h =>
    obtain ⟨q, h1, h2⟩ := h
    exact ⟨q, h1, h2.kept hq⟩
  | (1, n), h => exact hq.trans h
  | (2, n), h => exact hq.trans h
  | (t + 3, n), h => exact hq.trans h
theorem nh_at.lt {D : va_G} {cl : List vw_C} {sk : Nat → Nat → Bool} {cA : Nat → ClassId} {g : nh_N → Nat} {i : Nat → Int32} {r : Nat → Option nh_N} {c : nh_C} {a : Nat} {H : Heap} (h : nh_at D cl sk cA g i r c a H) : a < H.size := by
  match c, h with
  | (0, ci), h =>
    obtain ⟨q, h1, cell, h2, -⟩ := h
    exact (Array.getElem?_eq_some_iff.mp h2).1
  | (1, n), h => exact (Array.getElem?_eq_some_iff.mp h).1
  | (2, n), h => exact (Array.getElem?_eq_some_iff.mp h).1
  | (t + 3, n), h => exact (Array.getElem?_eq_some_iff.mp h).1
theorem nh_map {g g' : nh_N → Nat} {x : Option nh_N} (h : ∀ m, x = some m → g' m = g m) : x.map g' = x.map g := by
  cases x with
  | none => rfl
  | some m => simp [h m rfl]
theorem nh_at.moved {D : va_G} {cl : List vw_C} {sk : Nat → Nat → Bool} {cA : Nat → ClassId} {g g' : nh_N → Nat} {i : Nat → Int32} {r : Nat → Option nh_N} {c : nh_C} {a : Nat} {H : Heap} (h : nh_at D cl sk cA g i r c a H) (hg : ∀ k m, r k = some m → g' m = g m) : nh_at D cl sk cA g' i r c a H := by
  have hm : ∀ k, (r k).map g' = (r k).map g := fun k => nh_map (hg k)
  match c, h with
  | (0, ci), h =>
    obtain ⟨q, h1, h2⟩ := h
    exact ⟨q, h1, h2.to (fun k _ => by simp [nh_v, hm])⟩
  | (1, n), h => exact h
  | (2, n), h => exact h
  | (t + 3, n), h =>
    show H[a]? = some (arrV (cA (t + 2)) n (fun j => va_rf ((r j).map g')))
    simp only [hm]
    exact h
/-- the heap holds the named cells, at different addresses; every reference is to a cell that is there; what is outside A is as it was -/
def nh_P (D : va_G) (cl : List vw_C) (sk : Nat → Nat → Bool) (cA : Nat → ClassId) (S : nh_N → Option nh_C) (g : nh_N → Nat) (I : nh_N → Nat → Int32) (R : nh_N → Nat → Option nh_N) (H : Heap) : Prop :=
  (∀ n c, S n = some c → nh_at D cl sk cA g (I n) (R n) c (g n) H) ∧ (∀ n n' c c', S n = some c → S n' = some c' → g n = g n' → n = n') ∧ ∀ n c k m, S n = some c → R n k = some m → ∃ c', S m = some c'
def nh_S (D : va_G) (cl : List vw_C) (sk : Nat → Nat → Bool) (cA : Nat → ClassId) (A : Nat → Prop) (H0 : Heap) (S : nh_N → Option nh_C) (g : nh_N → Nat) (I : nh_N → Nat → Int32) (R : nh_N → Nat → Option nh_N) (H : Heap) (locs : List Loc) : Prop :=
  nh_P D cl sk cA S g I R H ∧ (∀ n c, S n = some c → A (g n)) ∧ va_S A H0 H locs ∧ ∀ q, H0.size ≤ q → A q
theorem nh_S.set {D : va_G} {cl : List vw_C} {sk : Nat → Nat → Bool} {cA : Nat → ClassId} {A : Nat → Prop} {H0 H H1 : Heap} {S : nh_N → Option nh_C} {g : nh_N → Nat} {I : nh_N → Nat → Int32} {R : nh_N → Nat → Option nh_N} {locs : List Loc} {n : nh_N} {c : nh_C} {k : Nat} {i : Nat → Int32} {r : Nat → Option nh_N}
    (h : nh_S D cl sk cA A H0 S g I R H locs) (hn : S n = some c) (hr : ∀ j m, r j = some m → ∃ c', S m = some c') (z : H1.size = H.size) (oq : ∀ q : Nat, q ≠ g n → H1[q]? = H[q]?) (hat : nh_at D cl sk cA g i r c (g n) H1) : nh_S D cl sk cA A H0 S g (nu I n i) (nu R n r) H1 (locs ++ [⟨g n, k⟩]) := by
  obtain ⟨⟨h1, h2, h3⟩, h4, h5, h6⟩ := h
  refine ⟨⟨fun m d hm => ?_, h2, fun m d j q hm hq => ?_⟩, h4, h5.put z oq (h4 n c hn), h6⟩
  · by_cases e : m = n
    · subst e
      rw [nu_s, nu_s]
      cases hn.symm.trans hm
      exact hat
    · rw [nu_n _ _ e, nu_n _ _ e]
      exact (h1 m d hm).kept (oq (g m) (fun q => e (h2 m n d c hm hn q)))
  · by_cases e : m = n
    · subst e
      rw [nu_s] at hq
      exact hr j q hq
    · rw [nu_n _ _ e] at hq
      exact h3 m d j q hm hq
theorem nh_S.new {D : va_G} {cl : List vw_C} {sk : Nat → Nat → Bool} {cA : Nat → ClassId} {A : Nat → Prop} {H0 H H1 : Heap} {S : nh_N → Option nh_C} {g : nh_N → Nat} {I : nh_N → Nat → Int32} {R : nh_N → Nat → Option nh_N} {locs : List Loc} (n : nh_N) {c : nh_C}
    (h : nh_S D cl sk cA A H0 S g I R H locs) (hn : S n = none) (z : H1.size = H.size + 1) (oq : ∀ q : Nat, q < H.size → H1[q]? = H[q]?) (hat : ∀ g', nh_at D cl sk cA g' (fun _ => 0) (fun _ => none) c H.size H1) : nh_S D cl sk cA A H0 (nu S n (some c)) (nu g n H.size) (nu I n (fun _ => 0)) (nu R n (fun _ => none)) H1 locs := by
  obtain ⟨⟨h1, h2, h3⟩, h4, h5, h6⟩ := h
  have hne : ∀ m d, S m = some d → m ≠ n := fun m d hm q => by rw [q, hn] at hm; cases hm
  refine ⟨⟨fun m d hm => ?_, fun m m' d d' hm hm' e => ?_, fun m d j q hm hq => ?_⟩, fun m d hm => ?_, ⟨Nat.le_trans h5.1 (by omega), fun q g1 g2 => (oq q (Nat.lt_of_lt_of_le g1 h5.1)).trans (h5.2.1 q g1 g2), h5.2.2⟩, h6⟩
  · by_cases e : m = n
    · subst e
      rw [nu_s] at hm
      cases hm
      rw [nu_s, nu_s, nu_s]
      exact hat _
    · rw [nu_n _ _ e] at hm
      rw [nu_n _ _ e, nu_n _ _ e, nu_n _ _ e]
      have hm1 := h1 m d hm
      exact (hm1.kept (oq _ hm1.lt)).moved (fun k q hq => by
        obtain ⟨c', hc'⟩ := h3 m d k q hm hq
        exact nu_n _ _ (hne q c' hc'))
  · by_cases e1 : m = n
    · by_cases e2 : m' = n
      · rw [e1, e2]
      · rw [nu_n _ _ e2] at hm'
        subst e1
        rw [nu_s, nu_n _ _ e2] at e
        have := (h1 m' d' hm').lt
        omega
    · rw [nu_n _ _ e1] at hm
      by_cases e2 : m' = n
      · subst e2
        rw [nu_s, nu_n _ _ e1] at e
        have := (h1 m d hm).lt
        omega
      · rw [nu_n _ _ e2] at hm'
        rw [nu_n _ _ e1, nu_n _ _ e2] at e
        exact h2 m m' d d' hm hm' e
  · by_cases e : m = n
    · subst e
      rw [nu_s] at hq
      cases hq
    · rw [nu_n _ _ e] at hm hq
      obtain ⟨c', hc'⟩ := h3 m d j q hm hq
      exact ⟨c', by rw [nu_n _ _ (hne q c' hc')]; exact hc'⟩
  · by_cases e : m = n
    · subst e
      rw [nu_s]
      exact h6 _ h5.1
    · rw [nu_n _ _ e] at hm
      rw [nu_n _ _ e]
      exact h4 m d hm
def nh_A (S : nh_N → Option nh_C) (g : nh_N → Nat) (sz : Nat) : Nat → Prop := fun q => (∃ n c, S n = some c ∧ g n = q) ∨ sz ≤ q
section NHR
variable {p : Program} {l : Launch} {e : Env} {Rm : Room} {s : State} {m : MethodId} {args : Array Value} {below : List Frame} {meth : Method} {c : Code} {H : Heap} {locs : List Loc} {cells slots : Nat} {Q : State → Prop}
variable {cc : ByteArray} {pc : Nat} {ls : Array Slot} {rest : List Value} {D : va_G} {cl : List vw_C} {sk : Nat → Nat → Bool} {cA : Nat → ClassId} {A : Nat → Prop} {a : Nat} {tys : List (ClassId × FieldType)} {S : nh_N → Option nh_C} {g : nh_N → Nat} {I : nh_N → Nat → Int32} {R : nh_N → Nat → Option nh_N} {H0 : Heap} {n : nh_N}
theorem nm_get (hexec : p.tables.exec = Jvm.exec) (hb : c.code = cc) {own ref C : String} {T : u_T} {N ci index : Nat} {Ts : List Cond} (hts : ∀ w ∈ Ts, w.before args s = true) (hin : ∀ w ∈ u_ws C T N, w ∈ Ts) (hown : s.vm.findClass own = some m.cls) (hK : va_K D cl tys s) (hw : nh_S D cl sk cA A H0 S g I R H locs) (hn : S n = some (0, ci)) (ha : g n = a) (hc : cl[ci]? = some (C, T, N)) (k : Nat) (hk : k < N) (hlink : (Cond.fieldLink own index ref (T k).2.1 (T k).2.2.1).before args s = true) (hsame : ∀ x, s.fieldFound? (T k).1 (T k).2.1 (T k).2.2.1 = some x → s.fieldFound? ref (T k).2.1 (T k).2.2.1 = some x) {v : Value} (hv : nh_v g (I n) (R n) (sk ci k) k = v) (hdg : decode cc pc = .ok (.getfield index, 3))
    (kk : W p l e Rm s m args below meth c H locs cells slots Q (F0 m (pc + 3) ls (v :: rest))) : W p l e Rm s m args below meth c H locs cells slots Q (F0 m pc ls (.ref a :: rest)) := by
  subst ha
  obtain ⟨r, h1, cell, q1, q2, q3, q4⟩ := hw.1.1 n _ hn
  have hr : r = (C, T, N) := Option.some.inj (h1.symm.trans hc)
  subst hr
  obtain ⟨hS, hfc, kC, hkC, hkind⟩ := hK.1 ci _ hc
  obtain ⟨cf, kf, fi, f, hi, hsl⟩ := hS k hk
  refine W.getf hexec hb hown hlink (hsame _ hi) (u_facts hfc hkC (u_lays hts hin hk) hi).1 q1 (by rw [q3]; exact fun h => by cases h) (v := v) ?_ rfl rfl hdg kk
  rw [hsl, q4 k hk, ← hv]
theorem nm_apart {own C : String} {T : u_T} {N ci : Nat} {Ts : List Cond} (hts : ∀ w ∈ Ts, w.before args s = true) (hin : ∀ w ∈ u_ws C T N, w ∈ Ts) (ty : Nat → FieldType) (hty : ∀ k, k < N → parseFieldDescriptor (T k).2.2.1 = some (ty k)) (hnm : ∀ a, a < N → ∀ b, b < N → a ≠ b → (T a).2.1 ≠ (T b).2.1) (hK : va_K D cl tys s) (hc : cl[ci]? = some (C, T, N)) : ∀ x y, x < N → y < N → x ≠ y → (D.2 ci) x ≠ (D.2 ci) y := va_apart (own := own) hts hin ty hty hnm hK hc
theorem nm_up {g : nh_N → Nat} {i : Nat → Int32} {r : Nat → Option nh_N} {b : Nat → Bool} {k : Nat} {x : Int32} (hb : b k = false) (j : Nat) : updV (fun k => nh_v g i r (b k) k) k (.int x) j = nh_v g (upd i k x) r (b j) j := by
  by_cases h : j = k
  · subst h
    simp [updV, upd, nh_v, hb]
  · simp [updV, upd, nh_v, h]
theorem nm_upr {g : nh_N → Nat} {i : Nat → Int32} {r : Nat → Option nh_N} {b : Nat → Bool} {k : Nat} {x : Option nh_N} (hb : b k = true) (j : Nat) : updV (fun k => nh_v g i r (b k) k) k (va_rf (x.map g)) j = nh_v g i (va_up r k x) (b j) j := by
  by_cases h : j = k
  · subst h
    simp [updV, va_up, nh_v, hb]
  · simp [updV, va_up, nh_v, h]
theorem nm_self {α : Type} (f : nh_N → α) (n : nh_N) : nu f n (f n) = f := by
  funext q
  by_cases h : q = n
  · subst h; simp [nu]
  · simp [nu, h]
/-- an int into a field that is not final -/
theorem nm_put (hexec : p.tables.exec = Jvm.exec) (hb : c.code = cc) {own ref C : String} {T : u_T} {N ci index : Nat} {Ts : List Cond} (hts : ∀ w ∈ Ts, w.before args s = true) (hin : ∀ w ∈ u_ws C T N, w ∈ Ts) (ty0 : Nat → FieldType) (hty : ∀ k, k < N → parseFieldDescriptor (T k).2.2.1 = some (ty0 k)) (hnm : ∀ a, a < N → ∀ b, b < N → a ≠ b → (T a).2.1 ≠ (T b).2.1) (hown : s.vm.findClass own = some m.cls) (hK : va_K D cl tys s) (hw : nh_S D cl sk cA A H0 S g I R H locs) (hn : S n = some (0, ci)) (ha : g n = a) (hc : cl[ci]? = some (C, T, N)) (k : Nat) (hk : k < N) (hlink : (Cond.fieldLink own index ref (T k).2.1 (T k).2.2.1).before args s = true) (hsame : ∀ x, s.fieldFound? (T k).1 (T k).2.1 (T k).2.2.1 = some x → s.fieldFound? ref (T k).2.1 (T k).2.2.1 = some x) (hfin : (T k).2.2.2 = false) {ty : FieldType} {x : Int32} (hd : parseFieldDescriptor (T k).2.2.1 = some ty) (hnr : narrow ty (.int x) = .int x) (hfit : fits ty (.int x) = true) (hsk : sk ci k = false)
    (hdg : decode cc pc = .ok (.putfield index, 3)) (kk : ∀ (H1 : Heap) (locs1 : List Loc), nh_S D cl sk cA A H0 S g (iu I n k x) R H1 locs1 → W p l e Rm s m args below meth c H1 locs1 cells slots Q (F0 m (pc + 3) ls rest)) : W p l e Rm s m args below meth c H locs cells slots Q (F0 m pc ls (.int x :: .ref a :: rest)) := by
  subst ha
  have hap := nm_apart (own := own) hts hin ty0 hty hnm hK hc
  obtain ⟨r, h1, cell, q1, q2, q3, q4⟩ := hw.1.1 n _ hn
  have hr : r = (C, T, N) := Option.some.inj (h1.symm.trans hc)
  subst hr
  obtain ⟨hS, hfc, kC, hkC, hkind⟩ := hK.1 ci _ hc
  obtain ⟨cf, kf, fi, f, hi, hsl⟩ := hS k hk
  have hlay := hts _ (hin _ (u_in_lay hk))
  unfold u_lay at hlay
  rw [if_neg (by rw [hfin]; decide)] at hlay
  have hst := (u_facts hfc hkC (u_lays hts hin hk) hi).1
  have h6 := u_store hfc hkC hkind hlay hi hd hnr hfit
  refine W.putK hexec hb (f := f) ⟨hown, hlink, ⟨_, _, _, hsame _ hi⟩, hst⟩ (by rw [q2]; exact h6) q1 q3 (by rw [hsl]; exact k2_hasslot (q4 k hk)) rfl rfl hdg fun H' e1 e2 e3 => ?_
  rw [hsl] at e1 ⊢
  have h9 := hw.set (k := D.2 ci k) (i := upd (I n) k x) (r := R n) hn (fun j q hq => hw.1.2.2 n _ j q hn hq) e2 e3 ⟨_, hc, t_OB.to (V := updV (fun k => nh_v g (I n) (R n) (sk ci k) k) k (.int x)) ⟨_, e1, q2, q3, t_set q4 hap hk _⟩ (fun j _ => nm_up (b := sk ci) hsk j)⟩
  rw [nm_self] at h9
  exact kk H' _ h9
/-- a reference, by name, into a field that is not final -/
theorem nm_putR (hexec : p.tables.exec = Jvm.exec) (hb : c.code = cc) {own ref C : String} {T : u_T} {N ci index : Nat} {Ts : List Cond} (hts : ∀ w ∈ Ts, w.before args s = true) (hin : ∀ w ∈ u_ws C T N, w ∈ Ts) (ty0 : Nat → FieldType) (hty : ∀ k, k < N → parseFieldDescriptor (T k).2.2.1 = some (ty0 k)) (hnm : ∀ a, a < N → ∀ b, b < N → a ≠ b → (T a).2.1 ≠ (T b).2.1) (hown : s.vm.findClass own = some m.cls) (hK : va_K D cl tys s) (hw : nh_S D cl sk cA A H0 S g I R H locs) (hn : S n = some (0, ci)) (ha : g n = a) (hc : cl[ci]? = some (C, T, N)) (k : Nat) (hk : k < N) (hlink : (Cond.fieldLink own index ref (T k).2.1 (T k).2.2.1).before args s = true) (hsame : ∀ x, s.fieldFound? (T k).1 (T k).2.1 (T k).2.2.1 = some x → s.fieldFound? ref (T k).2.1 (T k).2.2.1 = some x) (hfin : (T k).2.2.2 = false) {ty : FieldType} {v : Value} (q : Option nh_N) (hq : ∀ m, q = some m → ∃ c', S m = some c') (hv : va_rf (q.map g) = v) (hd : parseFieldDescriptor (T k).2.2.1 = some ty) (hnr : narrow ty v = v) (hfit : fits ty v = true) (hsk : sk ci k = true)
    (hdg : decode cc pc = .ok (.putfield index, 3)) (kk : ∀ (H1 : Heap) (locs1 : List Loc), nh_S D cl sk cA A H0 S g I (ru R n k q) H1 locs1 → W p l e Rm s m args below meth c H1 locs1 cells slots Q (F0 m (pc + 3) ls rest)) : W p l e Rm s m args below meth c H locs cells slots Q (F0 m pc ls (v :: .ref a :: rest)) := by
  subst ha
  subst hv
  have hap := nm_apart (own := own) hts hin ty0 hty hnm hK hc
  obtain ⟨r, h1, cell, q1, q2, q3, q4⟩ := hw.1.1 n _ hn
  have hr : r = (C, T, N) := Option.some.inj (h1.symm.trans hc)
  subst hr
  obtain ⟨hS, hfc, kC, hkC, hkind⟩ := hK.1 ci _ hc
  obtain ⟨cf, kf, fi, f, hi, hsl⟩ := hS k hk
  have hlay := hts _ (hin _ (u_in_lay hk))
  unfold u_lay at hlay
  rw [if_neg (by rw [hfin]; decide)] at hlay
  have hst := (u_facts hfc hkC (u_lays hts hin hk) hi).1
  have h6 := u_store hfc hkC hkind hlay hi hd hnr hfit
  refine W.putK hexec hb (f := f) ⟨hown, hlink, ⟨_, _, _, hsame _ hi⟩, hst⟩ (by rw [q2]; exact h6) q1 q3 (by rw [hsl]; exact k2_hasslot (q4 k hk)) rfl rfl hdg fun H' e1 e2 e3 => ?_
  rw [hsl] at e1 ⊢
  have h9 := hw.set (k := D.2 ci k) (i := I n) (r := va_up (R n) k q) hn (fun j x hx => by
    by_cases h : j = k
    · subst h; rw [va_up_self] at hx; exact hq x hx
    · rw [va_up_ne _ _ h] at hx; exact hw.1.2.2 n _ j x hn hx) e2 e3 ⟨_, hc, t_OB.to (V := updV (fun k => nh_v g (I n) (R n) (sk ci k) k) k (va_rf (q.map g))) ⟨_, e1, q2, q3, t_set q4 hap hk _⟩ (fun j _ => nm_upr (b := sk ci) hsk j)⟩
  rw [nm_self] at h9
  exact kk H' _ h9
/-- an int into a final field, in the constructor -/
theorem nm_putF (hexec : p.tables.exec = Jvm.exec) (hb : c.code = cc) {own ref C : String} {T : u_T} {N ci index : Nat} {Ts : List Cond} (hts : ∀ w ∈ Ts, w.before args s = true) (hin : ∀ w ∈ u_ws C T N, w ∈ Ts) (ty0 : Nat → FieldType) (hty : ∀ k, k < N → parseFieldDescriptor (T k).2.2.1 = some (ty0 k)) (hnm : ∀ a, a < N → ∀ b, b < N → a ≠ b → (T a).2.1 ≠ (T b).2.1) (hown : s.vm.findClass own = some m.cls) (hK : va_K D cl tys s) (hw : nh_S D cl sk cA A H0 S g I R H locs) (hn : S n = some (0, ci)) (ha : g n = a) (hc : cl[ci]? = some (C, T, N)) (k : Nat) (hk : k < N) (hlink : (Cond.fieldLink own index ref (T k).2.1 (T k).2.2.1).before args s = true) (hsame : ∀ x, s.fieldFound? (T k).1 (T k).2.1 (T k).2.2.1 = some x → s.fieldFound? ref (T k).2.1 (T k).2.2.1 = some x) (hfin : (T k).2.2.2 = true) (hin2 : meth.name = "<init>") (hdecl : (T k).1 = own) {ty : FieldType} {x : Int32} (hd : parseFieldDescriptor (T k).2.2.1 = some ty) (hnr : narrow ty (.int x) = .int x) (hfit : fits ty (.int x) = true) (hsk : sk ci k = false)
    (hdg : decode cc pc = .ok (.putfield index, 3)) (kk : ∀ (H1 : Heap) (locs1 : List Loc), nh_S D cl sk cA A H0 S g (iu I n k x) R H1 locs1 → W p l e Rm s m args below meth c H1 locs1 cells slots Q (F0 m (pc + 3) ls rest)) : W p l e Rm s m args below meth c H locs cells slots Q (F0 m pc ls (.int x :: .ref a :: rest)) := by
  subst ha
  have hap := nm_apart (own := own) hts hin ty0 hty hnm hK hc
  obtain ⟨r, h1, cell, q1, q2, q3, q4⟩ := hw.1.1 n _ hn
  have hr : r = (C, T, N) := Option.some.inj (h1.symm.trans hc)
  subst hr
  obtain ⟨hS, hfc, kC, hkC, hkind⟩ := hK.1 ci _ hc
  obtain ⟨cf, kf, fi, f, hi, hsl⟩ := hS k hk
  have hlay := hts _ (hin _ (u_in_lay hk))
  unfold u_lay at hlay
  rw [if_pos hfin] at hlay
  have hst := (u_facts hfc hkC (u_lays hts hin hk) hi).1
  have hcf : m.cls = cf := by
    obtain ⟨_, _, c', _, _, _, -, -, hf', -, -, -, hown2, -⟩ := Cond.laysFinal_spec hlay
    have e1 : c' = cf := by have := hi.symm.trans hf'; simp at this; exact this.1.symm
    rw [hdecl] at hown2
    rw [← e1]; exact Option.some.inj (hown.symm.trans hown2)
  have h6 := u_fits hfc hkC hkind (Or.inr hlay) hi hd hnr hfit
  refine W.putFinK hexec hb hown hlink (hsame _ hi) hst hcf hin2 (by rw [q2]; exact h6) q1 q3 (by rw [hsl]; exact k2_hasslot (q4 k hk)) rfl rfl hdg fun H' e1 e2 e3 => ?_
  rw [hsl] at e1 ⊢
  have h9 := hw.set (k := D.2 ci k) (i := upd (I n) k x) (r := R n) hn (fun j q hq => hw.1.2.2 n _ j q hn hq) e2 e3 ⟨_, hc, t_OB.to (V := updV (fun k => nh_v g (I n) (R n) (sk ci k) k) k (.int x)) ⟨_, e1, q2, q3, t_set q4 hap hk _⟩ (fun j _ => nm_up (b := sk ci) hsk j)⟩
  rw [nm_self] at h9
  exact kk H' _ h9
theorem nm_putFR (hexec : p.tables.exec = Jvm.exec) (hb : c.code = cc) {own ref C : String} {T : u_T} {N ci index : Nat} {Ts : List Cond} (hts : ∀ w ∈ Ts, w.before args s = true) (hin : ∀ w ∈ u_ws C T N, w ∈ Ts) (ty0 : Nat → FieldType) (hty : ∀ k, k < N → parseFieldDescriptor (T k).2.2.1 = some (ty0 k)) (hnm : ∀ a, a < N → ∀ b, b < N → a ≠ b → (T a).2.1 ≠ (T b).2.1) (hown : s.vm.findClass own = some m.cls) (hK : va_K D cl tys s) (hw : nh_S D cl sk cA A H0 S g I R H locs) (hn : S n = some (0, ci)) (ha : g n = a) (hc : cl[ci]? = some (C, T, N)) (k : Nat) (hk : k < N) (hlink : (Cond.fieldLink own index ref (T k).2.1 (T k).2.2.1).before args s = true) (hsame : ∀ x, s.fieldFound? (T k).1 (T k).2.1 (T k).2.2.1 = some x → s.fieldFound? ref (T k).2.1 (T k).2.2.1 = some x) (hfin : (T k).2.2.2 = true) (hin2 : meth.name = "<init>") (hdecl : (T k).1 = own) {ty : FieldType} {v : Value} (q : Option nh_N) (hq : ∀ m, q = some m → ∃ c', S m = some c') (hv : va_rf (q.map g) = v) (hd : parseFieldDescriptor (T k).2.2.1 = some ty) (hnr : narrow ty v = v) (hfit : fits ty v = true) (hsk : sk ci k = true)
    (hdg : decode cc pc = .ok (.putfield index, 3)) (kk : ∀ (H1 : Heap) (locs1 : List Loc), nh_S D cl sk cA A H0 S g I (ru R n k q) H1 locs1 → W p l e Rm s m args below meth c H1 locs1 cells slots Q (F0 m (pc + 3) ls rest)) : W p l e Rm s m args below meth c H locs cells slots Q (F0 m pc ls (v :: .ref a :: rest)) := by
  subst ha
  subst hv
  have hap := nm_apart (own := own) hts hin ty0 hty hnm hK hc
  obtain ⟨r, h1, cell, q1, q2, q3, q4⟩ := hw.1.1 n _ hn
  have hr : r = (C, T, N) := Option.some.inj (h1.symm.trans hc)
  subst hr
  obtain ⟨hS, hfc, kC, hkC, hkind⟩ := hK.1 ci _ hc
  obtain ⟨cf, kf, fi, f, hi, hsl⟩ := hS k hk
  have hlay := hts _ (hin _ (u_in_lay hk))
  unfold u_lay at hlay
  rw [if_pos hfin] at hlay
  have hst := (u_facts hfc hkC (u_lays hts hin hk) hi).1
  have hcf : m.cls = cf := by
    obtain ⟨_, _, c', _, _, _, -, -, hf', -, -, -, hown2, -⟩ := Cond.laysFinal_spec hlay
    have e1 : c' = cf := by have := hi.symm.trans hf'; simp at this; exact this.1.symm
    rw [hdecl] at hown2
    rw [← e1]; exact Option.some.inj (hown.symm.trans hown2)
  have h6 := u_fits hfc hkC hkind (Or.inr hlay) hi hd hnr hfit
  refine W.putFinK hexec hb hown hlink (hsame _ hi) hst hcf hin2 (by rw [q2]; exact h6) q1 q3 (by rw [hsl]; exact k2_hasslot (q4 k hk)) rfl rfl hdg fun H' e1 e2 e3 => ?_
  rw [hsl] at e1 ⊢
  have h9 := hw.set (k := D.2 ci k) (i := I n) (r := va_up (R n) k q) hn (fun j x hx => by
    by_cases h : j = k
    · subst h; rw [va_up_self] at hx; exact hq x hx
    · rw [va_up_ne _ _ h] at hx; exact hw.1.2.2 n _ j x hn hx) e2 e3 ⟨_, hc, t_OB.to (V := updV (fun k => nh_v g (I n) (R n) (sk ci k) k) k (va_rf (q.map g))) ⟨_, e1, q2, q3, t_set q4 hap hk _⟩ (fun j _ => nm_upr (b := sk ci) hsk j)⟩
  rw [nm_self] at h9
  exact kk H' _ h9
theorem nm_iald (hexec : p.tables.exec = Jvm.exec) (hb : c.code = cc) (hK : va_K D cl tys s) (hw : nh_S D cl sk cA A H0 S g I R H locs) {N : Nat} (hn : S n = some (1, N)) (ha : g n = a) (ht : tys[0]? = some (cA 0, .int)) {i : Int32} (hin : vp_in i N) (hdg : decode cc pc = .ok (.iaload, 1))
    (kk : W p l e Rm s m args below meth c H locs cells slots Q (F0 m (pc + 1) ls (.int (I n i.toNatClampNeg) :: rest))) : W p l e Rm s m args below meth c H locs cells slots Q (F0 m pc ls (.int i :: .ref a :: rest)) := by
  subst ha
  have hlt : i.toNatClampNeg < N := Nat.not_le.mp fun q => hin (Or.inr q)
  exact W.iald (v := .int (I n i.toNatClampNeg)) hexec hb (hw.1.1 n _ hn) ((hK.2 0 _ ht).1 N (fun j => .int (I n j))) (fun q => by cases q) (by show ¬ (i < 0 ∨ (arrV _ _ _).slots.size ≤ _); rw [arrV_size]; exact hin) (by show (arrV _ _ _).slots[_]? = _; rw [arrV_read _ _ hlt]) rfl rfl hdg kk
theorem nm_zald (hexec : p.tables.exec = Jvm.exec) (hb : c.code = cc) (hK : va_K D cl tys s) (hw : nh_S D cl sk cA A H0 S g I R H locs) {N : Nat} (hn : S n = some (2, N)) (ha : g n = a) (ht : tys[1]? = some (cA 1, .boolean)) {i : Int32} (hin : vp_in i N) (hdg : decode cc pc = .ok (.baload, 1))
    (kk : W p l e Rm s m args below meth c H locs cells slots Q (F0 m (pc + 1) ls (.int (I n i.toNatClampNeg) :: rest))) : W p l e Rm s m args below meth c H locs cells slots Q (F0 m pc ls (.int i :: .ref a :: rest)) := by
  subst ha
  have hlt : i.toNatClampNeg < N := Nat.not_le.mp fun q => hin (Or.inr q)
  exact W.zald (v := .int (I n i.toNatClampNeg)) hexec hb (hw.1.1 n _ hn) ((hK.2 1 _ ht).1 N (fun j => .int (I n j))) (fun q => by cases q) (by show ¬ (i < 0 ∨ (arrV _ _ _).slots.size ≤ _); rw [arrV_size]; exact hin) (by show (arrV _ _ _).slots[_]? = _; rw [arrV_read _ _ hlt]) rfl rfl hdg kk
theorem nm_aald (hexec : p.tables.exec = Jvm.exec) (hb : c.code = cc) (hK : va_K D cl tys s) (hw : nh_S D cl sk cA A H0 S g I R H locs) {t N : Nat} {C : String} (hn : S n = some (t + 3, N)) (ha : g n = a) (ht : tys[t + 2]? = some (cA (t + 2), .object C)) {i : Int32} (hin : vp_in i N) {v : Value} (hv : va_rf ((R n i.toNatClampNeg).map g) = v) (hdg : decode cc pc = .ok (.aaload, 1))
    (kk : W p l e Rm s m args below meth c H locs cells slots Q (F0 m (pc + 1) ls (v :: rest))) : W p l e Rm s m args below meth c H locs cells slots Q (F0 m pc ls (.int i :: .ref a :: rest)) := by
  subst ha
  subst hv
  have hlt : i.toNatClampNeg < N := Nat.not_le.mp fun q => hin (Or.inr q)
  exact W.aald (v := va_rf ((R n i.toNatClampNeg).map g)) (ty := .object C) hexec hb (hw.1.1 n _ hn) ((hK.2 (t + 2) _ ht).1 N (fun j => va_rf ((R n j).map g))) rfl (fun q => by cases q) (by show ¬ (i < 0 ∨ (arrV _ _ _).slots.size ≤ _); rw [arrV_size]; exact hin) (by show (arrV _ _ _).slots[_]? = _; rw [arrV_read _ _ hlt]) rfl rfl hdg kk
theorem nm_alenI (hexec : p.tables.exec = Jvm.exec) (hb : c.code = cc) (hK : va_K D cl tys s) (hw : nh_S D cl sk cA A H0 S g I R H locs) {N : Nat} (hn : S n = some (1, N)) (ha : g n = a) (ht : tys[0]? = some (cA 0, .int)) {v : Int32} (hv : Int32.ofNat N = v) (hdg : decode cc pc = .ok (.arraylength, 1))
    (kk : W p l e Rm s m args below meth c H locs cells slots Q (F0 m (pc + 1) ls (.int v :: rest))) : W p l e Rm s m args below meth c H locs cells slots Q (F0 m pc ls (.ref a :: rest)) := by
  subst ha
  subst hv
  exact W.alen (n := Int32.ofNat N) hexec hb (hw.1.1 n _ hn) ((hK.2 0 _ ht).1 N (fun j => .int (I n j))) (by rw [arrV_size] <;> rfl) rfl rfl hdg kk
theorem nm_alenR (hexec : p.tables.exec = Jvm.exec) (hb : c.code = cc) (hK : va_K D cl tys s) (hw : nh_S D cl sk cA A H0 S g I R H locs) {t N : Nat} {ty : FieldType} (hn : S n = some (t + 3, N)) (ha : g n = a) (ht : tys[t + 2]? = some (cA (t + 2), ty)) {v : Int32} (hv : Int32.ofNat N = v) (hdg : decode cc pc = .ok (.arraylength, 1))
    (kk : W p l e Rm s m args below meth c H locs cells slots Q (F0 m (pc + 1) ls (.int v :: rest))) : W p l e Rm s m args below meth c H locs cells slots Q (F0 m pc ls (.ref a :: rest)) := by
  subst ha
  subst hv
  exact W.alen (n := Int32.ofNat N) hexec hb (hw.1.1 n _ hn) ((hK.2 (t + 2) _ ht).1 N (fun j => va_rf ((R n j).map g))) (by rw [arrV_size] <;> rfl) rfl rfl hdg kk
theorem nm_iast (hexec : p.tables.exec = Jvm.exec) (hb : c.code = cc) (hK : va_K D cl tys s) (hw : nh_S D cl sk cA A H0 S g I R H locs) {N : Nat} (hn : S n = some (1, N)) (ha : g n = a) (ht : tys[0]? = some (cA 0, .int)) {i x : Int32} (hin : vp_in i N) (hdg : decode cc pc = .ok (.iastore, 1))
    (kk : ∀ (H1 : Heap) (locs1 : List Loc), nh_S D cl sk cA A H0 S g (iu I n i.toNatClampNeg x) R H1 locs1 → W p l e Rm s m args below meth c H1 locs1 cells slots Q (F0 m (pc + 1) ls rest)) : W p l e Rm s m args below meth c H locs cells slots Q (F0 m pc ls (.int x :: .int i :: .ref a :: rest)) := by
  subst ha
  refine W.iast hexec hb (hw.1.1 n _ hn) ((hK.2 0 _ ht).1 N (fun j => .int (I n j))) (fun q => by cases q) (by show ¬ (i < 0 ∨ (arrV _ _ _).slots.size ≤ _); rw [arrV_size]; exact hin) rfl rfl hdg fun H1 e1 z oq => ?_
  have h9 := hw.set (k := i.toNatClampNeg) (i := upd (I n) i.toNatClampNeg x) (r := R n) hn (fun j q hq => hw.1.2.2 n _ j q hn hq) z oq (by
    show H1[g n]? = some (arrV _ _ _)
    rw [e1, arrV_store]
    congr 2
    funext q
    by_cases hq : q = i.toNatClampNeg
    · subst hq
      simp [updV, upd]
    · simp [updV, upd, hq])
  rw [nm_self] at h9
  exact kk H1 _ h9
theorem nm_zast (hexec : p.tables.exec = Jvm.exec) (hb : c.code = cc) (hK : va_K D cl tys s) (hw : nh_S D cl sk cA A H0 S g I R H locs) {N : Nat} (hn : S n = some (2, N)) (ha : g n = a) (ht : tys[1]? = some (cA 1, .boolean)) {i x : Int32} (hin : vp_in i N) (hx : narrow .boolean (.int x) = .int x) (hdg : decode cc pc = .ok (.bastore, 1))
    (kk : ∀ (H1 : Heap) (locs1 : List Loc), nh_S D cl sk cA A H0 S g (iu I n i.toNatClampNeg x) R H1 locs1 → W p l e Rm s m args below meth c H1 locs1 cells slots Q (F0 m (pc + 1) ls rest)) : W p l e Rm s m args below meth c H locs cells slots Q (F0 m pc ls (.int x :: .int i :: .ref a :: rest)) := by
  subst ha
  refine W.zast hexec hb (hw.1.1 n _ hn) ((hK.2 1 _ ht).1 N (fun j => .int (I n j))) (fun q => by cases q) (by show ¬ (i < 0 ∨ (arrV _ _ _).slots.size ≤ _); rw [arrV_size]; exact hin) rfl rfl hdg fun H1 e1 z oq => ?_
  have h9 := hw.set (k := i.toNatClampNeg) (i := upd (I n) i.toNatClampNeg x) (r := R n) hn (fun j q hq => hw.1.2.2 n _ j q hn hq) z oq (by
    show H1[g n]? = some (arrV _ _ _)
    rw [e1, hx, arrV_store]
    congr 2
    funext q
    by_cases hq : q = i.toNatClampNeg
    · subst hq
      simp [updV, upd]
    · simp [updV, upd, hq])
  rw [nm_self] at h9
  exact kk H1 _ h9
theorem nm_aast (hexec : p.tables.exec = Jvm.exec) (hb : c.code = cc) (hK : va_K D cl tys s) (hw : nh_S D cl sk cA A H0 S g I R H locs) {t N ci v : Nat} {r : vw_C} (hn : S n = some (t + 3, N)) (ha : g n = a) (ht : tys[t + 2]? = some (cA (t + 2), .object r.1)) (q : nh_N) (hq : S q = some (0, ci)) (hv : g q = v) (hc : cl[ci]? = some r) {i : Int32} (hin : vp_in i N) (hdg : decode cc pc = .ok (.aastore, 1))
    (kk : ∀ (H1 : Heap) (locs1 : List Loc), nh_S D cl sk cA A H0 S g I (ru R n i.toNatClampNeg (some q)) H1 locs1 → W p l e Rm s m args below meth c H1 locs1 cells slots Q (F0 m (pc + 1) ls rest)) : W p l e Rm s m args below meth c H locs cells slots Q (F0 m pc ls (.ref v :: .int i :: .ref a :: rest)) := by
  subst ha
  subst hv
  have hlt : i.toNatClampNeg < N := Nat.not_le.mp fun q => hin (Or.inr q)
  have h0 : ¬ i < 0 := fun q => hin (Or.inl q)
  obtain ⟨r', hr', cellV, g1, g2, g3, -⟩ := hw.1.1 q _ hq
  have hcls := (hK.1 ci r hc).2
  obtain ⟨kA, comp, k1, k2, k3, -⟩ := (hK.2 (t + 2) _ ht).2
  have hcomp : comp = D.1 ci := Option.some.inj (k3.symm.trans hcls.1)
  subst hcomp
  obtain ⟨kC, hkC, -⟩ := hcls.2
  refine W.aast hexec hb (hw.1.1 n _ hn) (fun q h => by cases h) (fun h => by cases h) k1 k2 rfl hkC ⟨h0, by show _ < (arrV _ _ _).slots.size; rw [arrV_size]; exact hlt⟩ g1 (fun q h => by rw [g3] at h; cases h) (by rw [g2]; exact hkC) (by rw [g2]; exact va_assign hcls) rfl rfl hdg fun H1 e1 z oq => ?_
  have h9 := hw.set (k := i.toNatClampNeg) (i := I n) (r := va_up (R n) i.toNatClampNeg (some q)) hn (fun j x hx => by
    by_cases h : j = i.toNatClampNeg
    · subst h
      rw [va_up_self] at hx
      cases hx
      exact ⟨_, hq⟩
    · rw [va_up_ne _ _ h] at hx; exact hw.1.2.2 n _ j x hn hx) z oq (by
    show H1[g n]? = some (arrV _ _ _)
    rw [e1, arrV_store]
    congr 2
    funext j
    by_cases hj : j = i.toNatClampNeg
    · subst hj
      simp [updV, va_up, va_rf]
    · simp [updV, va_up, hj])
  rw [nm_self] at h9
  exact kk H1 _ h9
theorem nm_new (n : nh_N) (hexec : p.tables.exec = Jvm.exec) (hb : c.code = cc) {own C : String} {T : u_T} {N ci index : Nat} {Ts : List Cond} (hts : ∀ w ∈ Ts, w.before args s = true) (hin : ∀ w ∈ u_ws C T N, w ∈ Ts) (ty : Nat → FieldType) (hty : ∀ k, k < N → parseFieldDescriptor (T k).2.2.1 = some (ty k)) (hown : s.vm.findClass own = some m.cls) (hcl : (Cond.classLink own index C).before args s = true) (hinst : (Cond.instantiable C N).before args s = true) (hini : (Cond.initialized C).before args s = true)
    (hK : va_K D cl tys s) (hw : nh_S D cl sk cA A H0 S g I R H locs) (hn : S n = none) (hc : cl[ci]? = some (C, T, N)) (hfs : ∀ j, j < N → defaultValue (ty j) = if sk ci j = true then .null else .int 0) (hcells : cells + 1 ≤ Rm.cells) (hslots : slots + N ≤ Rm.slots) (hdg : decode cc pc = .ok (.new index, 3))
    (kk : ∀ (q : Nat) (H1 : Heap), nh_S D cl sk cA A H0 (nu S n (some (0, ci))) (nu g n q) (nu I n (fun _ => 0)) (nu R n (fun _ => none)) H1 locs →
      W p l e Rm s m args below meth c H1 locs (cells + 1) (slots + N) Q (F0 m (pc + 3) ls (.ref q :: rest))) : W p l e Rm s m args below meth c H locs cells slots Q (F0 m pc ls rest) := by
  have hKn := hK.1 ci _ hc
  refine W.newcK hexec hb hown hcl hinst hini rfl hdg hcells hslots hKn.2.1 rfl fun H1 kC hkC e1 z1 o1 => ?_
  exact kk H.size H1 (hw.new n hn z1 o1 (fun g' => ⟨_, hc, (u_born ty hts hin hKn hkC e1 hty).to (fun j hj => by
    rw [hfs j hj]
    by_cases h : sk ci j = true <;> simp [nh_v, h, va_rf])⟩))
theorem nm_newI (n : nh_N) (hexec : p.tables.exec = Jvm.exec) (hb : c.code = cc) (harr : (Cond.arrayClass .int).before args s = true) (hK : va_K D cl tys s) (hw : nh_S D cl sk cA A H0 S g I R H locs) (hn : S n = none) (ht : tys[0]? = some (cA 0, .int))
    {x : Int32} {N' : Nat} (hx : ¬ x < 0) (hN : x.toNatClampNeg = N') (hbytes : N' * componentBytes .int ≤ 536870912) (hcells : cells + 1 ≤ Rm.cells) (hslots : slots + N' ≤ Rm.slots) {atype : ArrayType} (hat : newarray.typeOf atype = .int) (hdg : decode cc pc = .ok (.newarray atype, 2))
    (kk : ∀ (q : Nat) (H1 : Heap), nh_S D cl sk cA A H0 (nu S n (some (1, N'))) (nu g n q) (nu I n (fun _ => 0)) (nu R n (fun _ => none)) H1 locs →
      W p l e Rm s m args below meth c H1 locs (cells + 1) (slots + N') Q (F0 m (pc + 2) ls (.ref q :: rest))) : W p l e Rm s m args below meth c H locs cells slots Q (F0 m pc ls (.int x :: rest)) := by
  refine va_newaK (atype := atype) hexec hb (by rw [hat]; exact harr) rfl hdg rfl hx hN (by rw [hat]; exact hbytes) hcells hslots rfl fun H1 cA' e1 z1 o1 hAr hNm => ?_
  rw [hat] at e1 hNm
  have hcc : cA' = cA 0 := by
    have h2 : s.vm.findClass ("[" ++ (FieldType.int).toString) = some (cA 0) := (hK.2 0 _ ht).2
    exact Option.some.inj (hNm.symm.trans h2)
  subst hcc
  exact kk H.size H1 (hw.new n hn z1 o1 (fun g' => e1))
theorem nm_newZ (n : nh_N) (hexec : p.tables.exec = Jvm.exec) (hb : c.code = cc) (harr : (Cond.arrayClass .boolean).before args s = true) (hK : va_K D cl tys s) (hw : nh_S D cl sk cA A H0 S g I R H locs) (hn : S n = none) (ht : tys[1]? = some (cA 1, .boolean))
    {x : Int32} {N' : Nat} (hx : ¬ x < 0) (hN : x.toNatClampNeg = N') (hbytes : N' * componentBytes .boolean ≤ 536870912) (hcells : cells + 1 ≤ Rm.cells) (hslots : slots + N' ≤ Rm.slots) {atype : ArrayType} (hat : newarray.typeOf atype = .boolean) (hdg : decode cc pc = .ok (.newarray atype, 2))
    (kk : ∀ (q : Nat) (H1 : Heap), nh_S D cl sk cA A H0 (nu S n (some (2, N'))) (nu g n q) (nu I n (fun _ => 0)) (nu R n (fun _ => none)) H1 locs →
      W p l e Rm s m args below meth c H1 locs (cells + 1) (slots + N') Q (F0 m (pc + 2) ls (.ref q :: rest))) : W p l e Rm s m args below meth c H locs cells slots Q (F0 m pc ls (.int x :: rest)) := by
  refine va_newaK (atype := atype) hexec hb (by rw [hat]; exact harr) rfl hdg rfl hx hN (by rw [hat]; exact hbytes) hcells hslots rfl fun H1 cA' e1 z1 o1 hAr hNm => ?_
  rw [hat] at e1 hNm
  have hcc : cA' = cA 1 := by
    have h2 : s.vm.findClass ("[" ++ (FieldType.boolean).toString) = some (cA 1) := (hK.2 1 _ ht).2
    exact Option.some.inj (hNm.symm.trans h2)
  subst hcc
  exact kk H.size H1 (hw.new n hn z1 o1 (fun g' => e1))
theorem nm_newR (n : nh_N) (hexec : p.tables.exec = Jvm.exec) (hb : c.code = cc) {own C : String} {index t : Nat} (hown : s.vm.findClass own = some m.cls) (hclink : (Cond.classLink own index C).before args s = true) (hover : va_AO C s) (hK : va_K D cl tys s) (hw : nh_S D cl sk cA A H0 S g I R H locs) (hn : S n = none) (ht : tys[t + 2]? = some (cA (t + 2), .object C))
    {x : Int32} {N' : Nat} (hx : ¬ x < 0) (hN : x.toNatClampNeg = N') (hbytes : N' * 4 ≤ 536870912) (hcells : cells + 1 ≤ Rm.cells) (hslots : slots + N' ≤ Rm.slots) (hdg : decode cc pc = .ok (.anewarray index, 3))
    (kk : ∀ (q : Nat) (H1 : Heap), nh_S D cl sk cA A H0 (nu S n (some (t + 3, N'))) (nu g n q) (nu I n (fun _ => 0)) (nu R n (fun _ => none)) H1 locs →
      W p l e Rm s m args below meth c H1 locs (cells + 1) (slots + N') Q (F0 m (pc + 3) ls (.ref q :: rest))) : W p l e Rm s m args below meth c H locs cells slots Q (F0 m pc ls (.int x :: rest)) := by
  subst hN
  refine W.anew hexec hb hown hclink (va_AO.use hover) rfl hdg rfl hx hbytes hcells hslots fun cA' kA comp f1 f2 f3 f4 => ?_
  have hcc : cA' = cA (t + 2) := by
    obtain ⟨_, _, -, -, -, h2⟩ := (hK.2 (t + 2) _ ht).2
    exact Option.some.inj (f1.symm.trans h2)
  subst hcc
  generalize hH1 : H.push ({ cls := cA (t + 2), slots := Array.replicate x.toNatClampNeg .null, vm := .none } : Cell) = H1
  have z1 : H1.size = H.size + 1 := by rw [← hH1, Array.size_push]
  have e1 : H1[H.size]? = some (arrV (cA (t + 2)) x.toNatClampNeg (fun _ => .null)) := by rw [← hH1, Array.getElem?_push_size, ← arrV_new]
  have o1 : ∀ q : Nat, q < H.size → H1[q]? = H[q]? := fun q hq => by rw [← hH1, Array.getElem?_push, if_neg (Nat.ne_of_lt hq)]
  exact kk H.size H1 (hw.new n hn z1 o1 (fun g' => e1))
end NHR
end
section
/-! CONTRACTS over named heaps, and calls -/
def nh_Pc (D : va_G) (cl : List vw_C) (sk : Nat → Nat → Bool) (cA : Nat → ClassId) (Kx : State → Prop) (av : List Value) (S : nh_N → Option nh_C) (g : nh_N → Nat) (I : nh_N → Nat → Int32) (R : nh_N → Nat → Option nh_N) (sz : Nat) : Array Value → State → Prop := va_Pc av (fun U => U.heap.size = sz ∧ nh_P D cl sk cA S g I R U.heap ∧ Kx U)
abbrev nh_post : Type := Option Value → (nh_N → Option nh_C) → (nh_N → Nat) → (nh_N → Nat → Int32) → (nh_N → Nat → Option nh_N) → Prop
def nh_Q (D : va_G) (cl : List vw_C) (sk : Nat → Nat → Bool) (cA : Nat → ClassId) (A : Nat → Prop) (post : nh_post) : Array Value → State → Outcome → State → Prop := fun _ st oc t => (∃ (v : Option Value) (S' : nh_N → Option nh_C) (g' : nh_N → Nat) (I' : nh_N → Nat → Int32) (R' : nh_N → Nat → Option nh_N), oc = .returned v ∧ post v S' g' I' R' ∧ nh_P D cl sk cA S' g' I' R' t.heap ∧ ∀ n c, S' n = some c → A (g' n)) ∧ va_F A st t
/-- method y, with fr frames and lo words of locals below it, makes mc cells of ms slots: from the arguments av and the named heap S g I R it comes to post -/
def nh_M (l : Launch) (y : MethodName) (ws : List Cond) (fr lo mc ms : Nat) (D : va_G) (cl : List vw_C) (sk : Nat → Nat → Bool) (cA : Nat → ClassId) (Kx : State → Prop) (av : List Value) (S : nh_N → Option nh_C) (g : nh_N → Nat) (I : nh_N → Nat → Int32) (R : nh_N → Nat → Option nh_N) (post : nh_post) : Prop :=
  ∀ sz : Nat, Met l y ws { frames := fr, cells := mc, slots := ms, locals := lo } (nh_Pc D cl sk cA Kx av S g I R sz) (nh_Q D cl sk cA (nh_A S g sz) post) mc ms (nh_A S g sz)
def nh_Kok (Kx : State → Prop) : Prop := (∀ u U : State, u.WarmedH U.vm → Kx u → Kx U) ∧ ∀ u U : State, u.vm = U.vm → Kx u → Kx U
theorem nh_of {l : Launch} {y : MethodName} {ws ws' : List Cond} {fr lo mc ms : Nat} {D : va_G} {cl : List vw_C} {sk : Nat → Nat → Bool} {cA : Nat → ClassId} {Kx : State → Prop} {av : List Value} {S : nh_N → Option nh_C} {g : nh_N → Nat} {I : nh_N → Nat → Int32} {R : nh_N → Nat → Option nh_N} {post : nh_post} {cc : ByteArray} {maxL : Nat} {ret : Option FieldType}
    (hy : plainName y.cls = true) (hw : ws = Cond.code y cc maxL ret :: ws') (hlen : (lg_sl av).length ≤ maxL)
    (body : ∀ (p : Program) (e : Env) (s : State) (m : MethodId) (below : List Frame) (meth : Method) (c : Code) (A : Nat → Prop) (ls : Array Slot), p.tables.exec = Jvm.exec → c.code = cc → meth.sig.returnType = ret → c.maxLocals = maxL → (∀ w ∈ ws, w.before av.toArray s = true) → s.vm.findClass y.cls = some m.cls → meth.locks = false → meth.name = y.name → Kx s → nh_S D cl sk cA A s.heap S g I R s.heap [] → lv_has ls maxL (lv_args 0 av) →
      W p l e { frames := fr, cells := mc, slots := ms, locals := lo } s m av.toArray below meth c s.heap [] 0 0 (MQ below (nh_Q D cl sk cA A post) av.toArray s mc ms A) (F0 m 0 ls [])) : nh_M l y ws fr lo mc ms D cl sk cA Kx av S g I R post := by
  intro sz
  refine Met.ofW (cc := cc) (maxL := maxL) (ret := ret) hy hw ?_
  intro p e s m args below meth c s₁ B hml hv
  obtain ⟨rfl, hsz, hP, hK⟩ := hv
  subst hsz
  have hl := lv_entry av (n := maxL) hlen
  rw [lg_entry_eq]
  exact body p e s m below meth c _ _ B.exec B.bytes B.returns hml (atoms_spec (ws := ws) B.pre) (findClass_of_methodNamed B.named) B.notSynchronized (name_of_methodNamed B.named B.method).1 hK ⟨hP, fun n c h => Or.inl ⟨n, c, h, rfl⟩, va_S.rf, fun q h => Or.inr h⟩ hl
section NHC
variable {p : Program} {l : Launch} {e : Env} {Rm : Room} {s : State} {m : MethodId} {args : Array Value} {below : List Frame} {meth : Method} {c : Code} {H : Heap} {locs : List Loc} {cells slots : Nat} {Q : State → Prop}
variable {cc : ByteArray} {pc : Nat} {ls : Array Slot} {rest st0 : List Value} {D : va_G} {cl : List vw_C} {sk : Nat → Nat → Bool} {cA : Nat → ClassId} {A A0 : Nat → Prop} {tys : List (ClassId × FieldType)} {S : nh_N → Option nh_C} {g : nh_N → Nat} {I : nh_N → Nat → Int32} {R : nh_N → Nat → Option nh_N} {H0 : Heap} {post : nh_post} {mc ms : Nat} {a : Array Value} {Kx : State → Prop}
theorem nh_iret {ty : FieldType} {v : Int32} (hexec : p.tables.exec = Jvm.exec) (hb : c.code = cc) (hr : meth.sig.returnType = some ty) (hn : narrow ty (.int v) = .int v) (hlocks : meth.locks = false) (hw : nh_S D cl sk cA A s.heap S g I R H locs) (h1 : cells ≤ mc) (h2 : slots ≤ ms) (hdg : decode cc pc = .ok (.ireturn, 1)) (hp : post (some (.int v)) S g I R) : W p l e Rm s m args below meth c H locs cells slots (MQ below (nh_Q D cl sk cA A post) args s mc ms A) (F0 m pc ls [.int v]) :=
  W.widen h1 h2 (W.zret hexec hb hr hn (fun t ht _ => ⟨⟨_, _, _, _, _, rfl, hp, by rw [ht]; exact hw.1, hw.2.1⟩, hw.2.2.1.F ht⟩) hw.2.2.1.2.2 hdg hlocks)
theorem nh_vret (hexec : p.tables.exec = Jvm.exec) (hb : c.code = cc) (hr : meth.sig.returnType = none) (hlocks : meth.locks = false) (hw : nh_S D cl sk cA A s.heap S g I R H locs) (h1 : cells ≤ mc) (h2 : slots ≤ ms) (hdg : decode cc pc = .ok (.return_, 1)) (hp : post none S g I R) : W p l e Rm s m args below meth c H locs cells slots (MQ below (nh_Q D cl sk cA A post) args s mc ms A) (F0 m pc ls []) :=
  W.widen h1 h2 (W.vret hexec hb hr (fun t ht _ => ⟨⟨_, _, _, _, _, rfl, hp, by rw [ht]; exact hw.1, hw.2.1⟩, hw.2.2.1.F ht⟩) hw.2.2.1.2.2 hdg hlocks)
theorem nh_aret {v : Value} {rt : FieldType} (hexec : p.tables.exec = Jvm.exec) (hb : c.code = cc) (hr : meth.sig.returnType = some rt) (hrt : (∃ n, rt = .object n) ∨ ∃ t, rt = .array t) (hv : v = .null ∨ ∃ a, v = .ref a) (hlocks : meth.locks = false) (hw : nh_S D cl sk cA A s.heap S g I R H locs) (h1 : cells ≤ mc) (h2 : slots ≤ ms) (hdg : decode cc pc = .ok (.areturn, 1)) (hp : post (some v) S g I R) : W p l e Rm s m args below meth c H locs cells slots (MQ below (nh_Q D cl sk cA A post) args s mc ms A) (F0 m pc ls [v]) :=
  W.widen h1 h2 (W.aret hexec hb hr hrt hv (fun t ht _ => ⟨⟨_, _, _, _, _, rfl, hp, by rw [ht]; exact hw.1, hw.2.1⟩, hw.2.2.1.F ht⟩) hw.2.2.1.2.2 hdg hlocks)
/-- behind a call; the last two say what the call left of the heap that is not this system's -/
theorem nh_call2 (hr : va_Run p l e Rm s m args below meth c H locs cells slots mc ms (F0 m pc ls st0) rest (nh_Q D cl sk cA (nh_A S g H.size) post a) (nh_A S g H.size)) (hw : nh_S D cl sk cA A0 H0 S g I R H locs)
    (kk : ∀ (v : Option Value) (S' : nh_N → Option nh_C) (g' : nh_N → Nat) (I' : nh_N → Nat → Int32) (R' : nh_N → Nat → Option nh_N) (H1 : Heap) (locs1 : List Loc), post v S' g' I' R' → nh_S D cl sk cA A0 H0 S' g' I' R' H1 locs1 → (∀ q, q < H.size → ¬ nh_A S g H.size q → H1[q]? = H[q]?) → (∀ n c, S' n = some c → nh_A S g H.size (g' n)) →
      W p l e Rm s m args below meth c H1 locs1 (cells + mc) (slots + ms) Q (F0 m (pc + 3) ls (v.toList ++ rest))) : W p l e Rm s m args below meth c H locs cells slots Q (F0 m pc ls st0) := by
  intro T hT X
  obtain ⟨v, st₀, t, T', L, h0, X', hL, e1, e2, ⟨⟨v', S', g', I', R', hv, hp, hP, hA⟩, hz, hk⟩, st⟩ := hr T hT X
  cases hv
  rw [h0] at hz hk
  have hsub : ∀ q, nh_A S g H.size q → A0 q := by
    intro q hq
    rcases hq with ⟨n, c, h1, h2⟩ | h1
    · rw [← h2]; exact hw.2.1 n c h1
    · exact hw.2.2.2 q (Nat.le_trans hw.2.2.1.1 h1)
  obtain ⟨t2, a1, b1⟩ := kk v S' g' I' R' T'.heap (locs ++ L) hp ⟨by rw [e1]; exact hP, fun n c h => hsub _ (hA n c h), ⟨Nat.le_trans hw.2.2.1.1 (by rw [e1]; exact hz), fun q h1 h2 => by rw [e1, hk q (Nat.lt_of_lt_of_le h1 hw.2.2.1.1) (fun z => h2 (hsub q z))]; exact hw.2.2.1.2.1 q h1 h2, fun q hq => by
      rcases List.mem_append.mp hq with h | h
      · exact hw.2.2.1.2.2 q h
      · exact hsub _ (hL q h)⟩, hw.2.2.2⟩ (fun q h1 h2 => by rw [e1]; exact hk q h1 h2) hA T' rfl X'
  exact ⟨t2, st t2 a1, b1⟩
theorem nh_call (hr : va_Run p l e Rm s m args below meth c H locs cells slots mc ms (F0 m pc ls st0) rest (nh_Q D cl sk cA (nh_A S g H.size) post a) (nh_A S g H.size)) (hw : nh_S D cl sk cA A0 H0 S g I R H locs)
    (kk : ∀ (v : Option Value) (S' : nh_N → Option nh_C) (g' : nh_N → Nat) (I' : nh_N → Nat → Int32) (R' : nh_N → Nat → Option nh_N) (H1 : Heap) (locs1 : List Loc), post v S' g' I' R' → nh_S D cl sk cA A0 H0 S' g' I' R' H1 locs1 →
      W p l e Rm s m args below meth c H1 locs1 (cells + mc) (slots + ms) Q (F0 m (pc + 3) ls (v.toList ++ rest))) : W p l e Rm s m args below meth c H locs cells slots Q (F0 m pc ls st0) :=
  nh_call2 hr hw fun v S' g' I' R' H1 locs1 hp h _ _ => kk v S' g' I' R' H1 locs1 hp h
theorem nh_preS {As : List Value} (hw : nh_S D cl sk cA A0 H0 S g I R H locs) (hKo : nh_Kok Kx) (hK : Kx s) : PreS s H (nh_Pc D cl sk cA Kx As S g I R H.size) As :=
  ⟨fun a U g' mk q => by
    obtain ⟨q0, q1, qP, qK⟩ := q
    exact ⟨q0, q1, qP, hKo.2 U _ rfl qK⟩, fun U hU hW => ⟨rfl, by rw [hU], by rw [hU]; exact hw.1, hKo.1 s U hW hK⟩⟩
theorem nh_preV {As : List Value} {b ci : Nat} {n : nh_N} {C : String} {T : u_T} {N : Nat} (hw : nh_S D cl sk cA A0 H0 S g I R H locs) (hKo : nh_Kok Kx) (hK : Kx s) (hKa : va_K D cl tys s) (hn : S n = some (0, ci)) (hb : g n = b) (hc : cl[ci]? = some (C, T, N)) : PreV s H C b (nh_Pc D cl sk cA Kx (.ref b :: As) S g I R H.size) As := by
  refine ⟨(nh_preS (As := .ref b :: As) hw hKo hK).1, ?_, (nh_preS (As := .ref b :: As) hw hKo hK).2⟩
  subst hb
  obtain ⟨q', h1, cell, g1, g2, g3, -⟩ := hw.1.1 n _ hn
  exact ⟨cell, g1, by rw [g3]; rfl, by rw [g2]; exact (hKa.1 ci _ hc).2.1⟩
variable {y : MethodName} {bytes : ByteArray} {maxL nL n index fr lo : Nat} {ret : Option FieldType} {ws Ts : List Cond} {own C host : String} {b : Addr} {As : List Value}
theorem nh_callV {nm : nh_N} {ci N : Nat} {T : u_T} (S0 : CallFix p m c cc nL s args Ts own) (hM : nh_M l y ws fr lo mc ms D cl sk cA Kx (.ref b :: As) S g I R post) (cw : CallW Rm s args own C index y bytes maxL ret ws { frames := fr, cells := mc, slots := ms, locals := lo } mc ms n) (hKo : nh_Kok Kx) (hK : Kx s) (hKa : va_K D cl tys s) (hw : nh_S D cl sk cA A0 H0 S g I R H locs) (hn : S nm = some (0, ci)) (hg : g nm = b) (hc : cl[ci]? = some (C, T, N)) (hlen : As.length = n) (hsize : ls.size = nL) (hstack : st0 = As.reverse ++ .ref b :: rest) (hroom : (rest.map fun v => v.category).sum ≤ 8) (hdg : decode cc pc = .ok (.invokevirtual index, 3)) (hf : cells + mc ≤ Rm.cells ∧ slots + ms ≤ Rm.slots)
    (kk : ∀ (v : Option Value) (S' : nh_N → Option nh_C) (g' : nh_N → Nat) (I' : nh_N → Nat → Int32) (R' : nh_N → Nat → Option nh_N) (H1 : Heap) (locs1 : List Loc), post v S' g' I' R' → nh_S D cl sk cA A0 H0 S' g' I' R' H1 locs1 →
      W p l e Rm s m args below meth c H1 locs1 (cells + mc) (slots + ms) Q (F0 m (pc + 3) ls (v.toList ++ rest))) : W p l e Rm s m args below meth c H locs cells slots Q (F0 m pc ls st0) :=
  nh_call (va_runV (As := As) (rest := rest) S0 (hM H.size) cw (nh_preV hw hKo hK hKa hn hg hc) rfl hlen hsize hstack (lv_room hroom) hdg hf) hw kk
theorem nh_callV2 {nm : nh_N} {ci N : Nat} {T : u_T} (S0 : CallFix p m c cc nL s args Ts own) (hM : nh_M l y ws fr lo mc ms D cl sk cA Kx (.ref b :: As) S g I R post) (cw : CallW Rm s args own C index y bytes maxL ret ws { frames := fr, cells := mc, slots := ms, locals := lo } mc ms n) (hKo : nh_Kok Kx) (hK : Kx s) (hKa : va_K D cl tys s) (hw : nh_S D cl sk cA A0 H0 S g I R H locs) (hn : S nm = some (0, ci)) (hg : g nm = b) (hc : cl[ci]? = some (C, T, N)) (hlen : As.length = n) (hsize : ls.size = nL) (hstack : st0 = As.reverse ++ .ref b :: rest) (hroom : (rest.map fun v => v.category).sum ≤ 8) (hdg : decode cc pc = .ok (.invokevirtual index, 3)) (hf : cells + mc ≤ Rm.cells ∧ slots + ms ≤ Rm.slots)
    (kk : ∀ (v : Option Value) (S' : nh_N → Option nh_C) (g' : nh_N → Nat) (I' : nh_N → Nat → Int32) (R' : nh_N → Nat → Option nh_N) (H1 : Heap) (locs1 : List Loc), post v S' g' I' R' → nh_S D cl sk cA A0 H0 S' g' I' R' H1 locs1 → (∀ q, q < H.size → ¬ nh_A S g H.size q → H1[q]? = H[q]?) → (∀ n c, S' n = some c → nh_A S g H.size (g' n)) →
      W p l e Rm s m args below meth c H1 locs1 (cells + mc) (slots + ms) Q (F0 m (pc + 3) ls (v.toList ++ rest))) : W p l e Rm s m args below meth c H locs cells slots Q (F0 m pc ls st0) :=
  nh_call2 (va_runV (As := As) (rest := rest) S0 (hM H.size) cw (nh_preV hw hKo hK hKa hn hg hc) rfl hlen hsize hstack (lv_room hroom) hdg hf) hw kk
theorem nh_callS (S0 : CallFix p m c cc nL s args Ts own) (hM : nh_M l y ws fr lo mc ms D cl sk cA Kx As S g I R post) (cw : CallB Rm s args own index y bytes maxL ret ws { frames := fr, cells := mc, slots := ms, locals := lo } mc ms n ∧ (Cond.static y).before args s = true) (hKo : nh_Kok Kx) (hK : Kx s) (hw : nh_S D cl sk cA A0 H0 S g I R H locs) (hlen : As.length = n) (hsize : ls.size = nL) (hstack : st0 = As.reverse ++ rest) (hroom : (rest.map fun v => v.category).sum ≤ 8) (hdg : decode cc pc = .ok (.invokestatic index, 3)) (hf : cells + mc ≤ Rm.cells ∧ slots + ms ≤ Rm.slots)
    (kk : ∀ (v : Option Value) (S' : nh_N → Option nh_C) (g' : nh_N → Nat) (I' : nh_N → Nat → Int32) (R' : nh_N → Nat → Option nh_N) (H1 : Heap) (locs1 : List Loc), post v S' g' I' R' → nh_S D cl sk cA A0 H0 S' g' I' R' H1 locs1 →
      W p l e Rm s m args below meth c H1 locs1 (cells + mc) (slots + ms) Q (F0 m (pc + 3) ls (v.toList ++ rest))) : W p l e Rm s m args below meth c H locs cells slots Q (F0 m pc ls st0) :=
  nh_call (va_runS (As := As) (rest := rest) S0 (hM H.size) cw (nh_preS hw hKo hK) rfl hlen hsize hstack (lv_room hroom) hdg hf) hw kk
theorem nh_callI (S0 : CallFix p m c cc nL s args Ts own) (hM : nh_M l y ws fr lo mc ms D cl sk cA Kx (.ref b :: As) S g I R post) (cw : CallB Rm s args own index y bytes maxL none ws { frames := fr, cells := mc, slots := ms, locals := lo } mc ms n ∧ y.name = "<init>" ∧ (Cond.instanceMethod y).before args s = true) (hKo : nh_Kok Kx) (hK : Kx s) (hw : nh_S D cl sk cA A0 H0 S g I R H locs) (hlen : As.length = n) (hsize : ls.size = nL) (hstack : st0 = As.reverse ++ .ref b :: rest) (hroom : (rest.map fun v => v.category).sum ≤ 8) (hdg : decode cc pc = .ok (.invokespecial index, 3)) (hf : cells + mc ≤ Rm.cells ∧ slots + ms ≤ Rm.slots)
    (kk : ∀ (v : Option Value) (S' : nh_N → Option nh_C) (g' : nh_N → Nat) (I' : nh_N → Nat → Int32) (R' : nh_N → Nat → Option nh_N) (H1 : Heap) (locs1 : List Loc), post v S' g' I' R' → nh_S D cl sk cA A0 H0 S' g' I' R' H1 locs1 → (∀ q, q < H.size → ¬ nh_A S g H.size q → H1[q]? = H[q]?) → (∀ n c, S' n = some c → nh_A S g H.size (g' n)) →
      W p l e Rm s m args below meth c H1 locs1 (cells + mc) (slots + ms) Q (F0 m (pc + 3) ls (v.toList ++ rest))) : W p l e Rm s m args below meth c H locs cells slots Q (F0 m pc ls st0) :=
  nh_call2 (va_runI (As := As) (rest := rest) S0 (hM H.size) cw (nh_preS (As := .ref b :: As) hw hKo hK) rfl hlen hsize hstack (lv_room hroom) hdg hf) hw kk
theorem nh_callSN (S0 : CallFix p m c cc nL s args Ts own) (hM : nh_M l y ws fr lo mc ms D cl sk cA Kx As S g I R post) (cw : va_CN Rm s args own index y host bytes maxL ret ws { frames := fr, cells := mc, slots := ms, locals := lo } mc ms n ∧ (Cond.static y).before args s = true ∧ True) (hKo : nh_Kok Kx) (hK : Kx s) (hw : nh_S D cl sk cA A0 H0 S g I R H locs) (hlen : As.length = n) (hsize : ls.size = nL) (hstack : st0 = As.reverse ++ rest) (hroom : (rest.map fun v => v.category).sum ≤ 8) (hdg : decode cc pc = .ok (.invokestatic index, 3)) (hf : cells + mc ≤ Rm.cells ∧ slots + ms ≤ Rm.slots)
    (kk : ∀ (v : Option Value) (S' : nh_N → Option nh_C) (g' : nh_N → Nat) (I' : nh_N → Nat → Int32) (R' : nh_N → Nat → Option nh_N) (H1 : Heap) (locs1 : List Loc), post v S' g' I' R' → nh_S D cl sk cA A0 H0 S' g' I' R' H1 locs1 →
      W p l e Rm s m args below meth c H1 locs1 (cells + mc) (slots + ms) Q (F0 m (pc + 3) ls (v.toList ++ rest))) : W p l e Rm s m args below meth c H locs cells slots Q (F0 m pc ls st0) :=
  nh_call (va_runSN (As := As) (rest := rest) S0 (hM H.size) cw (nh_preS hw hKo hK) rfl hlen hsize hstack (lv_room hroom) hdg hf) hw kk
end NHC
end
section
-- ===== PART A: goes FIRST, ahead of the names: the tables' words, and 'selects' of the private methods out of them =====
/-- a private method of a class that the tables say can be made, by its rows of tables_1 -/
def lw_okq (q : MethodName × Nat) : Prop := (q.1.cls ≠ "java/lang/invoke/MethodHandle" ∧ q.1.cls ≠ "java/lang/invoke/VarHandle") ∧ Cond.instantiable q.1.cls q.2 ∈ tables_1 ∧ Cond.privateMethod q.1 ∈ tables_1 ∧ Cond.instanceMethod q.1 ∈ tables_1
theorem lw_p0 : lw_okq (⟨"InsertMarks", "kindAt", "(I)LInsertMarks$Kind;"⟩, 9) := ⟨⟨by decide +kernel, by decide +kernel⟩, List.mem_of_getElem? (i := 10) (by decide +kernel), List.mem_of_getElem? (i := 123) (by decide +kernel), List.mem_of_getElem? (i := 124) (by decide +kernel)⟩
theorem lw_p1 : lw_okq (⟨"InsertMarks", "isClosed", "(I)Z"⟩, 9) := ⟨⟨by decide +kernel, by decide +kernel⟩, List.mem_of_getElem? (i := 10) (by decide +kernel), List.mem_of_getElem? (i := 130) (by decide +kernel), List.mem_of_getElem? (i := 131) (by decide +kernel)⟩
theorem lw_p2 : lw_okq (⟨"InsertMarks", "closeNextPage", "()I"⟩, 9) := ⟨⟨by decide +kernel, by decide +kernel⟩, List.mem_of_getElem? (i := 10) (by decide +kernel), List.mem_of_getElem? (i := 185) (by decide +kernel), List.mem_of_getElem? (i := 186) (by decide +kernel)⟩
theorem lw_p3 : lw_okq (⟨"InsertMarks", "lineUpInsertsOf", "(I)V"⟩, 9) := ⟨⟨by decide +kernel, by decide +kernel⟩, List.mem_of_getElem? (i := 10) (by decide +kernel), List.mem_of_getElem? (i := 189) (by decide +kernel), List.mem_of_getElem? (i := 190) (by decide +kernel)⟩
theorem lw_p4 : lw_okq (⟨"InsertMarks", "insertAt", "(I)LInsertMarks$Insert;"⟩, 9) := ⟨⟨by decide +kernel, by decide +kernel⟩, List.mem_of_getElem? (i := 10) (by decide +kernel), List.mem_of_getElem? (i := 193) (by decide +kernel), List.mem_of_getElem? (i := 194) (by decide +kernel)⟩
theorem lw_p5 : lw_okq (⟨"InsertMarks", "startPageInKinds", "()V"⟩, 9) := ⟨⟨by decide +kernel, by decide +kernel⟩, List.mem_of_getElem? (i := 10) (by decide +kernel), List.mem_of_getElem? (i := 201) (by decide +kernel), List.mem_of_getElem? (i := 202) (by decide +kernel)⟩
theorem lw_p6 : lw_okq (⟨"InsertMarks", "goThroughLine", "(LInsertMarks$Page;)V"⟩, 9) := ⟨⟨by decide +kernel, by decide +kernel⟩, List.mem_of_getElem? (i := 10) (by decide +kernel), List.mem_of_getElem? (i := 233) (by decide +kernel), List.mem_of_getElem? (i := 234) (by decide +kernel)⟩
theorem lw_p7 : lw_okq (⟨"InsertMarks", "goThrough", "(LInsertMarks$Page;LInsertMarks$Insert;)Z"⟩, 9) := ⟨⟨by decide +kernel, by decide +kernel⟩, List.mem_of_getElem? (i := 10) (by decide +kernel), List.mem_of_getElem? (i := 237) (by decide +kernel), List.mem_of_getElem? (i := 238) (by decide +kernel)⟩
theorem lw_p8 : lw_okq (⟨"InsertMarks", "freeOn", "(LInsertMarks$Page;LInsertMarks$Kind;)I"⟩, 9) := ⟨⟨by decide +kernel, by decide +kernel⟩, List.mem_of_getElem? (i := 10) (by decide +kernel), List.mem_of_getElem? (i := 241) (by decide +kernel), List.mem_of_getElem? (i := 242) (by decide +kernel)⟩
theorem lw_p9 : lw_okq (⟨"InsertMarks", "closedPageAt", "(I)LInsertMarks$Page;"⟩, 9) := ⟨⟨by decide +kernel, by decide +kernel⟩, List.mem_of_getElem? (i := 10) (by decide +kernel), List.mem_of_getElem? (i := 299) (by decide +kernel), List.mem_of_getElem? (i := 300) (by decide +kernel)⟩
theorem lw_p10 : lw_okq (⟨"InsertMarksModel", "isClass", "(I)Z"⟩, 28) := ⟨⟨by decide +kernel, by decide +kernel⟩, List.mem_of_getElem? (i := 349) (by decide +kernel), List.mem_of_getElem? (i := 451) (by decide +kernel), List.mem_of_getElem? (i := 452) (by decide +kernel)⟩
theorem lw_p11 : lw_okq (⟨"InsertMarksModel", "waits", "(I)Z"⟩, 28) := ⟨⟨by decide +kernel, by decide +kernel⟩, List.mem_of_getElem? (i := 349) (by decide +kernel), List.mem_of_getElem? (i := 463) (by decide +kernel), List.mem_of_getElem? (i := 464) (by decide +kernel)⟩
theorem lw_p12 : lw_okq (⟨"InsertMarksModel", "go", "(I)V"⟩, 28) := ⟨⟨by decide +kernel, by decide +kernel⟩, List.mem_of_getElem? (i := 349) (by decide +kernel), List.mem_of_getElem? (i := 467) (by decide +kernel), List.mem_of_getElem? (i := 468) (by decide +kernel)⟩
theorem lw_p13 : lw_okq (⟨"InsertMarksModel", "standing", "(II)I"⟩, 28) := ⟨⟨by decide +kernel, by decide +kernel⟩, List.mem_of_getElem? (i := 349) (by decide +kernel), List.mem_of_getElem? (i := 471) (by decide +kernel), List.mem_of_getElem? (i := 472) (by decide +kernel)⟩
theorem lw_p14 : lw_okq (⟨"InsertMarksModel", "place", "(IIZ)V"⟩, 28) := ⟨⟨by decide +kernel, by decide +kernel⟩, List.mem_of_getElem? (i := 349) (by decide +kernel), List.mem_of_getElem? (i := 475) (by decide +kernel), List.mem_of_getElem? (i := 476) (by decide +kernel)⟩
theorem lw_p15 : lw_okq (⟨"InsertMarksModel", "isIn", "(II)Z"⟩, 28) := ⟨⟨by decide +kernel, by decide +kernel⟩, List.mem_of_getElem? (i := 349) (by decide +kernel), List.mem_of_getElem? (i := 479) (by decide +kernel), List.mem_of_getElem? (i := 480) (by decide +kernel)⟩
def lw_privs_1 : List (MethodName × Nat) := [(⟨"InsertMarks", "kindAt", "(I)LInsertMarks$Kind;"⟩, 9), (⟨"InsertMarks", "isClosed", "(I)Z"⟩, 9), (⟨"InsertMarks", "closeNextPage", "()I"⟩, 9), (⟨"InsertMarks", "lineUpInsertsOf", "(I)V"⟩, 9), (⟨"InsertMarks", "insertAt", "(I)LInsertMarks$Insert;"⟩, 9), (⟨"InsertMarks", "startPageInKinds", "()V"⟩, 9), (⟨"InsertMarks", "goThroughLine", "(LInsertMarks$Page;)V"⟩, 9), (⟨"InsertMarks", "goThrough", "(LInsertMarks$Page;LInsertMarks$Insert;)Z"⟩, 9), (⟨"InsertMarks", "freeOn", "(LInsertMarks$Page;LInsertMarks$Kind;)I"⟩, 9), (⟨"InsertMarks", "closedPageAt", "(I)LInsertMarks$Page;"⟩, 9), (⟨"InsertMarksModel", "isClass", "(I)Z"⟩, 28), (⟨"InsertMarksModel", "waits", "(I)Z"⟩, 28), (⟨"InsertMarksModel", "go", "(I)V"⟩, 28), (⟨"InsertMarksModel", "standing", "(II)I"⟩, 28), (⟨"InsertMarksModel", "place", "(IIZ)V"⟩, 28), (⟨"InsertMarksModel", "isIn", "(II)Z"⟩, 28)]
theorem lw_r1 : ∀ q ∈ lw_privs_1, lw_okq q := List.forall_mem_cons.mpr ⟨lw_p0, List.forall_mem_cons.mpr ⟨lw_p1, List.forall_mem_cons.mpr ⟨lw_p2, List.forall_mem_cons.mpr ⟨lw_p3, List.forall_mem_cons.mpr ⟨lw_p4, List.forall_mem_cons.mpr ⟨lw_p5, List.forall_mem_cons.mpr ⟨lw_p6, List.forall_mem_cons.mpr ⟨lw_p7, List.forall_mem_cons.mpr ⟨lw_p8, List.forall_mem_cons.mpr ⟨lw_p9, List.forall_mem_cons.mpr ⟨lw_p10, List.forall_mem_cons.mpr ⟨lw_p11, List.forall_mem_cons.mpr ⟨lw_p12, List.forall_mem_cons.mpr ⟨lw_p13, List.forall_mem_cons.mpr ⟨lw_p14, List.forall_mem_cons.mpr ⟨lw_p15, fun _ h => absurd h List.not_mem_nil⟩⟩⟩⟩⟩⟩⟩⟩⟩⟩⟩⟩⟩⟩⟩⟩
theorem lw_p16 : lw_okq (⟨"InsertMarksModel", "heldAt", "(I)I"⟩, 28) := ⟨⟨by decide +kernel, by decide +kernel⟩, List.mem_of_getElem? (i := 349) (by decide +kernel), List.mem_of_getElem? (i := 487) (by decide +kernel), List.mem_of_getElem? (i := 488) (by decide +kernel)⟩
theorem lw_p17 : lw_okq (⟨"InsertMarksModel", "partAt", "(II)I"⟩, 28) := ⟨⟨by decide +kernel, by decide +kernel⟩, List.mem_of_getElem? (i := 349) (by decide +kernel), List.mem_of_getElem? (i := 500) (by decide +kernel), List.mem_of_getElem? (i := 501) (by decide +kernel)⟩
theorem lw_p18 : lw_okq (⟨"InsertMarksModel", "markOn", "(IIZ)I"⟩, 28) := ⟨⟨by decide +kernel, by decide +kernel⟩, List.mem_of_getElem? (i := 349) (by decide +kernel), List.mem_of_getElem? (i := 520) (by decide +kernel), List.mem_of_getElem? (i := 521) (by decide +kernel)⟩
theorem lw_p19 : lw_okq (⟨"InsertMarksModel", "lastBefore", "(II)I"⟩, 28) := ⟨⟨by decide +kernel, by decide +kernel⟩, List.mem_of_getElem? (i := 349) (by decide +kernel), List.mem_of_getElem? (i := 524) (by decide +kernel), List.mem_of_getElem? (i := 525) (by decide +kernel)⟩
def lw_privs_2 : List (MethodName × Nat) := [(⟨"InsertMarksModel", "heldAt", "(I)I"⟩, 28), (⟨"InsertMarksModel", "partAt", "(II)I"⟩, 28), (⟨"InsertMarksModel", "markOn", "(IIZ)I"⟩, 28), (⟨"InsertMarksModel", "lastBefore", "(II)I"⟩, 28)]
theorem lw_r2 : ∀ q ∈ lw_privs_2, lw_okq q := List.forall_mem_cons.mpr ⟨lw_p16, List.forall_mem_cons.mpr ⟨lw_p17, List.forall_mem_cons.mpr ⟨lw_p18, List.forall_mem_cons.mpr ⟨lw_p19, fun _ h => absurd h List.not_mem_nil⟩⟩⟩⟩
def lw_privs : List (MethodName × Nat) := lw_privs_1 ++ (lw_privs_2)
def lw_tbl : List Cond := k2_sels lw_privs ++ tables_1
theorem lw_privs_ok : ∀ q ∈ lw_privs, lw_okq q := by
  show ∀ q ∈ lw_privs_1 ++ (lw_privs_2), lw_okq q
  exact List.forall_mem_append.mpr ⟨lw_r1, lw_r2⟩
/-! NAMES, by program -/
def im_ws : List Cond := lw_tbl.filter goodWord
theorem im_good {w : Cond} (h : w ∈ im_ws) : w ∈ lw_tbl ∧ ((w.onTables && w.keeps) = true ∨ ∃ ty, w = .arrayClass ty) := ⟨(List.mem_filter.mp h).1, good_of_word (List.mem_filter.mp h).2⟩
theorem im_m (i : Nat) {w : Cond} (h : lw_tbl[i]? = some w) (g : goodWord w = true) : w ∈ im_ws := List.mem_filter.mpr ⟨List.mem_of_getElem? h, g⟩
def qR0 : String := "InsertMarks$Insert"
def qT0 : u_T := fun k => match k with
  | 0 => ("InsertMarks$Insert", "index", "I", true)
  | 1 => ("InsertMarks$Insert", "kind", "LInsertMarks$Kind;", true)
  | 2 => ("InsertMarks$Insert", "page", "I", true)
  | 3 => ("InsertMarks$Insert", "rest", "I", false)
  | 4 => ("InsertMarks$Insert", "number", "I", false)
  | 5 => ("InsertMarks$Insert", "firstPage", "I", false)
  | 6 => ("InsertMarks$Insert", "latestPage", "I", false)
  | _ => ("InsertMarks$Insert", "partCount", "I", false)
def qY0 : Nat → FieldType := fun k => match k with
  | 0 => .int
  | 1 => .object "InsertMarks$Kind"
  | 2 => .int
  | 3 => .int
  | 4 => .int
  | 5 => .int
  | 6 => .int
  | _ => .int
theorem qN0 : ∀ a, a < 8 → ∀ b, b < 8 → a ≠ b → (qT0 a).2.1 ≠ (qT0 b).2.1 := by decide +kernel
theorem qO0 : ∀ k, k < 8 → parseFieldDescriptor (qT0 k).2.2.1 = some (qY0 k) := by decide +kernel
def qR1 : String := "InsertMarks$Kind"
def qT1 : u_T := fun k => match k with
  | 0 => ("InsertMarks$Kind", "room", "I", true)
  | 1 => ("InsertMarks$Kind", "least", "I", true)
  | 2 => ("InsertMarks$Kind", "anew", "Z", true)
  | 3 => ("InsertMarks$Kind", "sizeOn", "[I", true)
  | 4 => ("InsertMarks$Kind", "hasMark", "[Z", true)
  | 5 => ("InsertMarks$Kind", "firstTold", "[I", true)
  | 6 => ("InsertMarks$Kind", "lastTold", "[I", true)
  | 7 => ("InsertMarks$Kind", "latestNumber", "I", false)
  | _ => ("InsertMarks$Kind", "holds", "Z", false)
def qY1 : Nat → FieldType := fun k => match k with
  | 0 => .int
  | 1 => .int
  | 2 => .boolean
  | 3 => .array (.int)
  | 4 => .array (.boolean)
  | 5 => .array (.int)
  | 6 => .array (.int)
  | 7 => .int
  | _ => .boolean
theorem qN1 : ∀ a, a < 9 → ∀ b, b < 9 → a ≠ b → (qT1 a).2.1 ≠ (qT1 b).2.1 := by decide +kernel
theorem qO1 : ∀ k, k < 9 → parseFieldDescriptor (qT1 k).2.2.1 = some (qY1 k) := by decide +kernel
def qR2 : String := "InsertMarks$Line"
def qT2 : u_T := fun k => match k with
  | 0 => ("InsertMarks$Line", "row", "[I", true)
  | _ => ("InsertMarks$Line", "length", "I", false)
def qY2 : Nat → FieldType := fun k => match k with
  | 0 => .array (.int)
  | _ => .int
theorem qN2 : ∀ a, a < 2 → ∀ b, b < 2 → a ≠ b → (qT2 a).2.1 ≠ (qT2 b).2.1 := by decide +kernel
theorem qO2 : ∀ k, k < 2 → parseFieldDescriptor (qT2 k).2.2.1 = some (qY2 k) := by decide +kernel
def qR3 : String := "InsertMarks$Page"
def qT3 : u_T := fun k => match k with
  | 0 => ("InsertMarks$Page", "number", "I", true)
  | 1 => ("InsertMarks$Page", "parts", "[LInsertMarks$Part;", true)
  | 2 => ("InsertMarks$Page", "partCount", "I", false)
  | _ => ("InsertMarks$Page", "size", "I", false)
def qY3 : Nat → FieldType := fun k => match k with
  | 0 => .int
  | 1 => .array (.object "InsertMarks$Part")
  | 2 => .int
  | _ => .int
theorem qN3 : ∀ a, a < 4 → ∀ b, b < 4 → a ≠ b → (qT3 a).2.1 ≠ (qT3 b).2.1 := by decide +kernel
theorem qO3 : ∀ k, k < 4 → parseFieldDescriptor (qT3 k).2.2.1 = some (qY3 k) := by decide +kernel
def qR4 : String := "InsertMarks$Part"
def qT4 : u_T := fun k => match k with
  | 0 => ("InsertMarks$Part", "owner", "LInsertMarks$Insert;", true)
  | 1 => ("InsertMarks$Part", "size", "I", true)
  | _ => ("InsertMarks$Part", "over", "Z", true)
def qY4 : Nat → FieldType := fun k => match k with
  | 0 => .object "InsertMarks$Insert"
  | 1 => .int
  | _ => .boolean
theorem qN4 : ∀ a, a < 3 → ∀ b, b < 3 → a ≠ b → (qT4 a).2.1 ≠ (qT4 b).2.1 := by decide +kernel
theorem qO4 : ∀ k, k < 3 → parseFieldDescriptor (qT4 k).2.2.1 = some (qY4 k) := by decide +kernel
def qR5 : String := "InsertMarks"
def qT5 : u_T := fun k => match k with
  | 0 => ("InsertMarks", "pageRoom", "I", true)
  | 1 => ("InsertMarks", "kinds", "[LInsertMarks$Kind;", true)
  | 2 => ("InsertMarks", "inserts", "[LInsertMarks$Insert;", true)
  | 3 => ("InsertMarks", "pages", "[LInsertMarks$Page;", true)
  | 4 => ("InsertMarks", "line", "LInsertMarks$Line;", true)
  | 5 => ("InsertMarks", "kindCount", "I", false)
  | 6 => ("InsertMarks", "insertCount", "I", false)
  | 7 => ("InsertMarks", "markCount", "I", false)
  | _ => ("InsertMarks", "closedCount", "I", false)
def qY5 : Nat → FieldType := fun k => match k with
  | 0 => .int
  | 1 => .array (.object "InsertMarks$Kind")
  | 2 => .array (.object "InsertMarks$Insert")
  | 3 => .array (.object "InsertMarks$Page")
  | 4 => .object "InsertMarks$Line"
  | 5 => .int
  | 6 => .int
  | 7 => .int
  | _ => .int
theorem qN5 : ∀ a, a < 9 → ∀ b, b < 9 → a ≠ b → (qT5 a).2.1 ≠ (qT5 b).2.1 := by decide +kernel
theorem qO5 : ∀ k, k < 9 → parseFieldDescriptor (qT5 k).2.2.1 = some (qY5 k) := by decide +kernel
def qR6 : String := "InsertMarksModel"
def qT6 : u_T := fun k => match k with
  | 0 => ("InsertMarksModel", "room", "I", true)
  | 1 => ("InsertMarksModel", "classes", "I", false)
  | 2 => ("InsertMarksModel", "rooms", "[I", true)
  | 3 => ("InsertMarksModel", "leasts", "[I", true)
  | 4 => ("InsertMarksModel", "anew", "[Z", true)
  | 5 => ("InsertMarksModel", "last", "[I", true)
  | 6 => ("InsertMarksModel", "inserts", "I", false)
  | 7 => ("InsertMarksModel", "classOf", "[I", true)
  | 8 => ("InsertMarksModel", "rest", "[I", true)
  | 9 => ("InsertMarksModel", "pageOf", "[I", true)
  | 10 => ("InsertMarksModel", "numbers", "[I", true)
  | 11 => ("InsertMarksModel", "gone", "[Z", true)
  | 12 => ("InsertMarksModel", "partsOf", "[I", true)
  | 13 => ("InsertMarksModel", "marks", "I", false)
  | 14 => ("InsertMarksModel", "markClass", "[I", true)
  | 15 => ("InsertMarksModel", "markPage", "[I", true)
  | 16 => ("InsertMarksModel", "markValue", "[I", true)
  | 17 => ("InsertMarksModel", "closed", "I", false)
  | 18 => ("InsertMarksModel", "parts", "I", false)
  | 19 => ("InsertMarksModel", "partPage", "[I", true)
  | 20 => ("InsertMarksModel", "partInsert", "[I", true)
  | 21 => ("InsertMarksModel", "partSize", "[I", true)
  | 22 => ("InsertMarksModel", "partOver", "[Z", true)
  | 23 => ("InsertMarksModel", "before", "I", false)
  | 24 => ("InsertMarksModel", "order", "[I", true)
  | 25 => ("InsertMarksModel", "now", "I", false)
  | 26 => ("InsertMarksModel", "next", "[I", true)
  | _ => ("InsertMarksModel", "stops", "[Z", true)
def qY6 : Nat → FieldType := fun k => match k with
  | 0 => .int
  | 1 => .int
  | 2 => .array (.int)
  | 3 => .array (.int)
  | 4 => .array (.boolean)
  | 5 => .array (.int)
  | 6 => .int
  | 7 => .array (.int)
  | 8 => .array (.int)
  | 9 => .array (.int)
  | 10 => .array (.int)
  | 11 => .array (.boolean)
  | 12 => .array (.int)
  | 13 => .int
  | 14 => .array (.int)
  | 15 => .array (.int)
  | 16 => .array (.int)
  | 17 => .int
  | 18 => .int
  | 19 => .array (.int)
  | 20 => .array (.int)
  | 21 => .array (.int)
  | 22 => .array (.boolean)
  | 23 => .int
  | 24 => .array (.int)
  | 25 => .int
  | 26 => .array (.int)
  | _ => .array (.boolean)
theorem qN6 : ∀ a, a < 28 → ∀ b, b < 28 → a ≠ b → (qT6 a).2.1 ≠ (qT6 b).2.1 := by decide +kernel
theorem qO6 : ∀ k, k < 28 → parseFieldDescriptor (qT6 k).2.2.1 = some (qY6 k) := by decide +kernel
abbrev im_cl : List vw_C := [(qR0, qT0, 8), (qR1, qT1, 9), (qR2, qT2, 2), (qR3, qT3, 4), (qR4, qT4, 3), (qR5, qT5, 9), (qR6, qT6, 28)]
def im_sk : Nat → Nat → Bool := fun ci k => match ci with
  | 0 => match k with
    | 1 => true
    | _ => false
  | 1 => match k with
    | 3 => true
    | 4 => true
    | 5 => true
    | 6 => true
    | _ => false
  | 2 => match k with
    | 0 => true
    | _ => false
  | 3 => match k with
    | 1 => true
    | _ => false
  | 4 => match k with
    | 0 => true
    | _ => false
  | 5 => match k with
    | 1 => true
    | 2 => true
    | 3 => true
    | 4 => true
    | _ => false
  | _ => match k with
    | 2 => true
    | 3 => true
    | 4 => true
    | 5 => true
    | 7 => true
    | 8 => true
    | 9 => true
    | 10 => true
    | 11 => true
    | 12 => true
    | 14 => true
    | 15 => true
    | 16 => true
    | 19 => true
    | 20 => true
    | 21 => true
    | 22 => true
    | 24 => true
    | 26 => true
    | 27 => true
    | _ => false
theorem qD0 : ∀ j, j < 8 → defaultValue (qY0 j) = if im_sk 0 j = true then .null else .int 0 := by
  intro j hj
  match j, hj with
  | 0, _ => rfl
  | 1, _ => rfl
  | 2, _ => rfl
  | 3, _ => rfl
  | 4, _ => rfl
  | 5, _ => rfl
  | 6, _ => rfl
  | 7, _ => rfl
  | j + 8, h => exact absurd h (by omega)
theorem qD1 : ∀ j, j < 9 → defaultValue (qY1 j) = if im_sk 1 j = true then .null else .int 0 := by
  intro j hj
  match j, hj with
  | 0, _ => rfl
  | 1, _ => rfl
  | 2, _ => rfl
  | 3, _ => rfl
  | 4, _ => rfl
  | 5, _ => rfl
  | 6, _ => rfl
  | 7, _ => rfl
  | 8, _ => rfl
  | j + 9, h => exact absurd h (by omega)
theorem qD2 : ∀ j, j < 2 → defaultValue (qY2 j) = if im_sk 2 j = true then .null else .int 0 := by
  intro j hj
  match j, hj with
  | 0, _ => rfl
  | 1, _ => rfl
  | j + 2, h => exact absurd h (by omega)
theorem qD3 : ∀ j, j < 4 → defaultValue (qY3 j) = if im_sk 3 j = true then .null else .int 0 := by
  intro j hj
  match j, hj with
  | 0, _ => rfl
  | 1, _ => rfl
  | 2, _ => rfl
  | 3, _ => rfl
  | j + 4, h => exact absurd h (by omega)
theorem qD4 : ∀ j, j < 3 → defaultValue (qY4 j) = if im_sk 4 j = true then .null else .int 0 := by
  intro j hj
  match j, hj with
  | 0, _ => rfl
  | 1, _ => rfl
  | 2, _ => rfl
  | j + 3, h => exact absurd h (by omega)
theorem qD5 : ∀ j, j < 9 → defaultValue (qY5 j) = if im_sk 5 j = true then .null else .int 0 := by
  intro j hj
  match j, hj with
  | 0, _ => rfl
  | 1, _ => rfl
  | 2, _ => rfl
  | 3, _ => rfl
  | 4, _ => rfl
  | 5, _ => rfl
  | 6, _ => rfl
  | 7, _ => rfl
  | 8, _ => rfl
  | j + 9, h => exact absurd h (by omega)
theorem qD6 : ∀ j, j < 28 → defaultValue (qY6 j) = if im_sk 6 j = true then .null else .int 0 := by
  intro j hj
  match j, hj with
  | 0, _ => rfl
  | 1, _ => rfl
  | 2, _ => rfl
  | 3, _ => rfl
  | 4, _ => rfl
  | 5, _ => rfl
  | 6, _ => rfl
  | 7, _ => rfl
  | 8, _ => rfl
  | 9, _ => rfl
  | 10, _ => rfl
  | 11, _ => rfl
  | 12, _ => rfl
  | 13, _ => rfl
  | 14, _ => rfl
  | 15, _ => rfl
  | 16, _ => rfl
  | 17, _ => rfl
  | 18, _ => rfl
  | 19, _ => rfl
  | 20, _ => rfl
  | 21, _ => rfl
  | 22, _ => rfl
  | 23, _ => rfl
  | 24, _ => rfl
  | 25, _ => rfl
  | 26, _ => rfl
  | 27, _ => rfl
  | j + 28, h => exact absurd h (by omega)
abbrev cX5_init : ByteArray := prog_1_method_1_code
def yX5_init : MethodName := ⟨qR5, "<init>", "(I)V"⟩
theorem wcX5_init : Cond.code yX5_init cX5_init 2 none ∈ im_ws := im_m 33 (by decide +kernel) rfl
abbrev vX5_init : List Cond := Cond.code yX5_init cX5_init 2 none :: im_ws
theorem wiX5_init : Cond.instanceMethod yX5_init ∈ im_ws := im_m 32 (by decide +kernel) rfl
abbrev cX5_cls : ByteArray := prog_1_method_2_code
def yX5_cls : MethodName := ⟨qR5, "cls", "(IIZ)I"⟩
theorem wcX5_cls : Cond.code yX5_cls cX5_cls 5 (some .int) ∈ im_ws := im_m 96 (by decide +kernel) rfl
abbrev vX5_cls : List Cond := Cond.code yX5_cls cX5_cls 5 (some .int) :: im_ws
theorem wiX5_cls : Cond.instanceMethod yX5_cls ∈ im_ws := im_m 94 (by decide +kernel) rfl
theorem weX5_cls : Cond.selects qR5 yX5_cls yX5_cls ∈ im_ws := im_m 95 (by decide +kernel) rfl
abbrev cX5_insert : ByteArray := prog_1_method_3_code
def yX5_insert : MethodName := ⟨qR5, "insert", "(III)I"⟩
theorem wcX5_insert : Cond.code yX5_insert cX5_insert 6 (some .int) ∈ im_ws := im_m 141 (by decide +kernel) rfl
abbrev vX5_insert : List Cond := Cond.code yX5_insert cX5_insert 6 (some .int) :: im_ws
theorem wiX5_insert : Cond.instanceMethod yX5_insert ∈ im_ws := im_m 139 (by decide +kernel) rfl
theorem weX5_insert : Cond.selects qR5 yX5_insert yX5_insert ∈ im_ws := im_m 140 (by decide +kernel) rfl
abbrev cX5_mark : ByteArray := prog_1_method_4_code
def yX5_mark : MethodName := ⟨qR5, "mark", "(III)I"⟩
theorem wcX5_mark : Cond.code yX5_mark cX5_mark 5 (some .int) ∈ im_ws := im_m 195 (by decide +kernel) rfl
abbrev vX5_mark : List Cond := Cond.code yX5_mark cX5_mark 5 (some .int) :: im_ws
theorem wiX5_mark : Cond.instanceMethod yX5_mark ∈ im_ws := im_m 193 (by decide +kernel) rfl
theorem weX5_mark : Cond.selects qR5 yX5_mark yX5_mark ∈ im_ws := im_m 194 (by decide +kernel) rfl
abbrev cX5_close : ByteArray := prog_1_method_5_code
def yX5_close : MethodName := ⟨qR5, "close", "()I"⟩
theorem wcX5_close : Cond.code yX5_close cX5_close 1 (some .int) ∈ im_ws := im_m 203 (by decide +kernel) rfl
abbrev vX5_close : List Cond := Cond.code yX5_close cX5_close 1 (some .int) :: im_ws
theorem wiX5_close : Cond.instanceMethod yX5_close ∈ im_ws := im_m 201 (by decide +kernel) rfl
theorem weX5_close : Cond.selects qR5 yX5_close yX5_close ∈ im_ws := im_m 202 (by decide +kernel) rfl
abbrev cX5_flush : ByteArray := prog_1_method_6_code
def yX5_flush : MethodName := ⟨qR5, "flush", "()I"⟩
theorem wcX5_flush : Cond.code yX5_flush cX5_flush 3 (some .int) ∈ im_ws := im_m 301 (by decide +kernel) rfl
abbrev vX5_flush : List Cond := Cond.code yX5_flush cX5_flush 3 (some .int) :: im_ws
theorem wiX5_flush : Cond.instanceMethod yX5_flush ∈ im_ws := im_m 299 (by decide +kernel) rfl
theorem weX5_flush : Cond.selects qR5 yX5_flush yX5_flush ∈ im_ws := im_m 300 (by decide +kernel) rfl
abbrev cX5_cancel : ByteArray := prog_1_method_7_code
def yX5_cancel : MethodName := ⟨qR5, "cancel", "(I)I"⟩
theorem wcX5_cancel : Cond.code yX5_cancel cX5_cancel 3 (some .int) ∈ im_ws := im_m 305 (by decide +kernel) rfl
abbrev vX5_cancel : List Cond := Cond.code yX5_cancel cX5_cancel 3 (some .int) :: im_ws
theorem wiX5_cancel : Cond.instanceMethod yX5_cancel ∈ im_ws := im_m 303 (by decide +kernel) rfl
theorem weX5_cancel : Cond.selects qR5 yX5_cancel yX5_cancel ∈ im_ws := im_m 304 (by decide +kernel) rfl
abbrev cX5_placed : ByteArray := prog_1_method_8_code
def yX5_placed : MethodName := ⟨qR5, "placed", "(III)I"⟩
theorem wcX5_placed : Cond.code yX5_placed cX5_placed 6 (some .int) ∈ im_ws := im_m 317 (by decide +kernel) rfl
abbrev vX5_placed : List Cond := Cond.code yX5_placed cX5_placed 6 (some .int) :: im_ws
theorem wiX5_placed : Cond.instanceMethod yX5_placed ∈ im_ws := im_m 315 (by decide +kernel) rfl
theorem weX5_placed : Cond.selects qR5 yX5_placed yX5_placed ∈ im_ws := im_m 316 (by decide +kernel) rfl
abbrev cX5_about : ByteArray := prog_1_method_9_code
def yX5_about : MethodName := ⟨qR5, "about", "(II)I"⟩
theorem wcX5_about : Cond.code yX5_about cX5_about 4 (some .int) ∈ im_ws := im_m 330 (by decide +kernel) rfl
abbrev vX5_about : List Cond := Cond.code yX5_about cX5_about 4 (some .int) :: im_ws
theorem wiX5_about : Cond.instanceMethod yX5_about ∈ im_ws := im_m 328 (by decide +kernel) rfl
theorem weX5_about : Cond.selects qR5 yX5_about yX5_about ∈ im_ws := im_m 329 (by decide +kernel) rfl
abbrev cX5_held : ByteArray := prog_1_method_10_code
def yX5_held : MethodName := ⟨qR5, "held", "(I)I"⟩
theorem wcX5_held : Cond.code yX5_held cX5_held 2 (some .int) ∈ im_ws := im_m 334 (by decide +kernel) rfl
abbrev vX5_held : List Cond := Cond.code yX5_held cX5_held 2 (some .int) :: im_ws
theorem wiX5_held : Cond.instanceMethod yX5_held ∈ im_ws := im_m 332 (by decide +kernel) rfl
theorem weX5_held : Cond.selects qR5 yX5_held yX5_held ∈ im_ws := im_m 333 (by decide +kernel) rfl
abbrev cX5_used : ByteArray := prog_1_method_11_code
def yX5_used : MethodName := ⟨qR5, "used", "(II)I"⟩
theorem wcX5_used : Cond.code yX5_used cX5_used 5 (some .int) ∈ im_ws := im_m 343 (by decide +kernel) rfl
abbrev vX5_used : List Cond := Cond.code yX5_used cX5_used 5 (some .int) :: im_ws
theorem wiX5_used : Cond.instanceMethod yX5_used ∈ im_ws := im_m 341 (by decide +kernel) rfl
theorem weX5_used : Cond.selects qR5 yX5_used yX5_used ∈ im_ws := im_m 342 (by decide +kernel) rfl
abbrev cX5_seen : ByteArray := prog_1_method_12_code
def yX5_seen : MethodName := ⟨qR5, "seen", "(III)I"⟩
theorem wcX5_seen : Cond.code yX5_seen cX5_seen 5 (some .int) ∈ im_ws := im_m 347 (by decide +kernel) rfl
abbrev vX5_seen : List Cond := Cond.code yX5_seen cX5_seen 5 (some .int) :: im_ws
theorem wiX5_seen : Cond.instanceMethod yX5_seen ∈ im_ws := im_m 345 (by decide +kernel) rfl
theorem weX5_seen : Cond.selects qR5 yX5_seen yX5_seen ∈ im_ws := im_m 346 (by decide +kernel) rfl
abbrev cX5_count : ByteArray := prog_1_method_13_code
def yX5_count : MethodName := ⟨qR5, "count", "(I)I"⟩
theorem wcX5_count : Cond.code yX5_count cX5_count 2 (some .int) ∈ im_ws := im_m 364 (by decide +kernel) rfl
abbrev vX5_count : List Cond := Cond.code yX5_count cX5_count 2 (some .int) :: im_ws
theorem wiX5_count : Cond.instanceMethod yX5_count ∈ im_ws := im_m 362 (by decide +kernel) rfl
theorem weX5_count : Cond.selects qR5 yX5_count yX5_count ∈ im_ws := im_m 363 (by decide +kernel) rfl
abbrev cX5_isWithin : ByteArray := prog_1_method_14_code
def yX5_isWithin : MethodName := ⟨qR5, "isWithin", "(III)Z"⟩
theorem wcX5_isWithin : Cond.code yX5_isWithin cX5_isWithin 3 (some .boolean) ∈ im_ws := im_m 99 (by decide +kernel) rfl
abbrev vX5_isWithin : List Cond := Cond.code yX5_isWithin cX5_isWithin 3 (some .boolean) :: im_ws
theorem wtX5_isWithin : Cond.static yX5_isWithin ∈ im_ws := im_m 98 (by decide +kernel) rfl
abbrev cX5_isPage : ByteArray := prog_1_method_15_code
def yX5_isPage : MethodName := ⟨qR5, "isPage", "(I)Z"⟩
theorem wcX5_isPage : Cond.code yX5_isPage cX5_isPage 1 (some .boolean) ∈ im_ws := im_m 148 (by decide +kernel) rfl
abbrev vX5_isPage : List Cond := Cond.code yX5_isPage cX5_isPage 1 (some .boolean) :: im_ws
theorem wtX5_isPage : Cond.static yX5_isPage ∈ im_ws := im_m 147 (by decide +kernel) rfl
abbrev cX5_isClosed : ByteArray := prog_1_method_16_code
def yX5_isClosed : MethodName := ⟨qR5, "isClosed", "(I)Z"⟩
theorem wcX5_isClosed : Cond.code yX5_isClosed cX5_isClosed 2 (some .boolean) ∈ im_ws := im_m 152 (by decide +kernel) rfl
abbrev vX5_isClosed : List Cond := Cond.code yX5_isClosed cX5_isClosed 2 (some .boolean) :: im_ws
theorem wiX5_isClosed : Cond.instanceMethod yX5_isClosed ∈ im_ws := im_m 151 (by decide +kernel) rfl
theorem weX5_isClosed : Cond.selects qR5 yX5_isClosed yX5_isClosed ∈ im_ws := im_m 1 (by decide +kernel) rfl
abbrev cX5_kindAt : ByteArray := prog_1_method_17_code
def yX5_kindAt : MethodName := ⟨qR5, "kindAt", "(I)LInsertMarks$Kind;"⟩
theorem wcX5_kindAt : Cond.code yX5_kindAt cX5_kindAt 2 (some (.object "InsertMarks$Kind")) ∈ im_ws := im_m 145 (by decide +kernel) rfl
abbrev vX5_kindAt : List Cond := Cond.code yX5_kindAt cX5_kindAt 2 (some (.object "InsertMarks$Kind")) :: im_ws
theorem wiX5_kindAt : Cond.instanceMethod yX5_kindAt ∈ im_ws := im_m 144 (by decide +kernel) rfl
theorem weX5_kindAt : Cond.selects qR5 yX5_kindAt yX5_kindAt ∈ im_ws := im_m 0 (by decide +kernel) rfl
abbrev cX5_insertAt : ByteArray := prog_1_method_18_code
def yX5_insertAt : MethodName := ⟨qR5, "insertAt", "(I)LInsertMarks$Insert;"⟩
theorem wcX5_insertAt : Cond.code yX5_insertAt cX5_insertAt 2 (some (.object "InsertMarks$Insert")) ∈ im_ws := im_m 215 (by decide +kernel) rfl
abbrev vX5_insertAt : List Cond := Cond.code yX5_insertAt cX5_insertAt 2 (some (.object "InsertMarks$Insert")) :: im_ws
theorem wiX5_insertAt : Cond.instanceMethod yX5_insertAt ∈ im_ws := im_m 214 (by decide +kernel) rfl
theorem weX5_insertAt : Cond.selects qR5 yX5_insertAt yX5_insertAt ∈ im_ws := im_m 4 (by decide +kernel) rfl
abbrev cX5_closedPageAt : ByteArray := prog_1_method_19_code
def yX5_closedPageAt : MethodName := ⟨qR5, "closedPageAt", "(I)LInsertMarks$Page;"⟩
theorem wcX5_closedPageAt : Cond.code yX5_closedPageAt cX5_closedPageAt 2 (some (.object "InsertMarks$Page")) ∈ im_ws := im_m 321 (by decide +kernel) rfl
abbrev vX5_closedPageAt : List Cond := Cond.code yX5_closedPageAt cX5_closedPageAt 2 (some (.object "InsertMarks$Page")) :: im_ws
theorem wiX5_closedPageAt : Cond.instanceMethod yX5_closedPageAt ∈ im_ws := im_m 320 (by decide +kernel) rfl
theorem weX5_closedPageAt : Cond.selects qR5 yX5_closedPageAt yX5_closedPageAt ∈ im_ws := im_m 9 (by decide +kernel) rfl
abbrev cX5_closeNextPage : ByteArray := prog_1_method_20_code
def yX5_closeNextPage : MethodName := ⟨qR5, "closeNextPage", "()I"⟩
theorem wcX5_closeNextPage : Cond.code yX5_closeNextPage cX5_closeNextPage 2 (some .int) ∈ im_ws := im_m 207 (by decide +kernel) rfl
abbrev vX5_closeNextPage : List Cond := Cond.code yX5_closeNextPage cX5_closeNextPage 2 (some .int) :: im_ws
theorem wiX5_closeNextPage : Cond.instanceMethod yX5_closeNextPage ∈ im_ws := im_m 206 (by decide +kernel) rfl
theorem weX5_closeNextPage : Cond.selects qR5 yX5_closeNextPage yX5_closeNextPage ∈ im_ws := im_m 2 (by decide +kernel) rfl
abbrev cX5_goThroughLine : ByteArray := prog_1_method_21_code
def yX5_goThroughLine : MethodName := ⟨qR5, "goThroughLine", "(LInsertMarks$Page;)V"⟩
theorem wcX5_goThroughLine : Cond.code yX5_goThroughLine cX5_goThroughLine 6 none ∈ im_ws := im_m 255 (by decide +kernel) rfl
abbrev vX5_goThroughLine : List Cond := Cond.code yX5_goThroughLine cX5_goThroughLine 6 none :: im_ws
theorem wiX5_goThroughLine : Cond.instanceMethod yX5_goThroughLine ∈ im_ws := im_m 254 (by decide +kernel) rfl
theorem weX5_goThroughLine : Cond.selects qR5 yX5_goThroughLine yX5_goThroughLine ∈ im_ws := im_m 6 (by decide +kernel) rfl
abbrev cX5_lineUpInsertsOf : ByteArray := prog_1_method_22_code
def yX5_lineUpInsertsOf : MethodName := ⟨qR5, "lineUpInsertsOf", "(I)V"⟩
theorem wcX5_lineUpInsertsOf : Cond.code yX5_lineUpInsertsOf cX5_lineUpInsertsOf 4 none ∈ im_ws := im_m 211 (by decide +kernel) rfl
abbrev vX5_lineUpInsertsOf : List Cond := Cond.code yX5_lineUpInsertsOf cX5_lineUpInsertsOf 4 none :: im_ws
theorem wiX5_lineUpInsertsOf : Cond.instanceMethod yX5_lineUpInsertsOf ∈ im_ws := im_m 210 (by decide +kernel) rfl
theorem weX5_lineUpInsertsOf : Cond.selects qR5 yX5_lineUpInsertsOf yX5_lineUpInsertsOf ∈ im_ws := im_m 3 (by decide +kernel) rfl
abbrev cX5_startPageInKinds : ByteArray := prog_1_method_23_code
def yX5_startPageInKinds : MethodName := ⟨qR5, "startPageInKinds", "()V"⟩
theorem wcX5_startPageInKinds : Cond.code yX5_startPageInKinds cX5_startPageInKinds 3 none ∈ im_ws := im_m 223 (by decide +kernel) rfl
abbrev vX5_startPageInKinds : List Cond := Cond.code yX5_startPageInKinds cX5_startPageInKinds 3 none :: im_ws
theorem wiX5_startPageInKinds : Cond.instanceMethod yX5_startPageInKinds ∈ im_ws := im_m 222 (by decide +kernel) rfl
theorem weX5_startPageInKinds : Cond.selects qR5 yX5_startPageInKinds yX5_startPageInKinds ∈ im_ws := im_m 5 (by decide +kernel) rfl
abbrev cX5_goThrough : ByteArray := prog_1_method_24_code
def yX5_goThrough : MethodName := ⟨qR5, "goThrough", "(LInsertMarks$Page;LInsertMarks$Insert;)Z"⟩
theorem wcX5_goThrough : Cond.code yX5_goThrough cX5_goThrough 5 (some .boolean) ∈ im_ws := im_m 259 (by decide +kernel) rfl
abbrev vX5_goThrough : List Cond := Cond.code yX5_goThrough cX5_goThrough 5 (some .boolean) :: im_ws
theorem wiX5_goThrough : Cond.instanceMethod yX5_goThrough ∈ im_ws := im_m 258 (by decide +kernel) rfl
theorem weX5_goThrough : Cond.selects qR5 yX5_goThrough yX5_goThrough ∈ im_ws := im_m 7 (by decide +kernel) rfl
abbrev cX5_freeOn : ByteArray := prog_1_method_25_code
def yX5_freeOn : MethodName := ⟨qR5, "freeOn", "(LInsertMarks$Page;LInsertMarks$Kind;)I"⟩
theorem wcX5_freeOn : Cond.code yX5_freeOn cX5_freeOn 5 (some .int) ∈ im_ws := im_m 263 (by decide +kernel) rfl
abbrev vX5_freeOn : List Cond := Cond.code yX5_freeOn cX5_freeOn 5 (some .int) :: im_ws
theorem wiX5_freeOn : Cond.instanceMethod yX5_freeOn ∈ im_ws := im_m 262 (by decide +kernel) rfl
theorem weX5_freeOn : Cond.selects qR5 yX5_freeOn yX5_freeOn ∈ im_ws := im_m 8 (by decide +kernel) rfl
abbrev cX6_init : ByteArray := prog_8_method_1_code
def yX6_init : MethodName := ⟨qR6, "<init>", "(I)V"⟩
theorem wcX6_init : Cond.code yX6_init cX6_init 2 none ∈ im_ws := im_m 372 (by decide +kernel) rfl
abbrev vX6_init : List Cond := Cond.code yX6_init cX6_init 2 none :: im_ws
theorem wiX6_init : Cond.instanceMethod yX6_init ∈ im_ws := im_m 371 (by decide +kernel) rfl
abbrev cX6_in : ByteArray := prog_8_method_2_code
def yX6_in : MethodName := ⟨qR6, "in", "(III)Z"⟩
theorem wcX6_in : Cond.code yX6_in cX6_in 3 (some .boolean) ∈ im_ws := im_m 465 (by decide +kernel) rfl
abbrev vX6_in : List Cond := Cond.code yX6_in cX6_in 3 (some .boolean) :: im_ws
theorem wtX6_in : Cond.static yX6_in ∈ im_ws := im_m 464 (by decide +kernel) rfl
abbrev cX6_isClass : ByteArray := prog_8_method_3_code
def yX6_isClass : MethodName := ⟨qR6, "isClass", "(I)Z"⟩
theorem wcX6_isClass : Cond.code yX6_isClass cX6_isClass 2 (some .boolean) ∈ im_ws := im_m 473 (by decide +kernel) rfl
abbrev vX6_isClass : List Cond := Cond.code yX6_isClass cX6_isClass 2 (some .boolean) :: im_ws
theorem wiX6_isClass : Cond.instanceMethod yX6_isClass ∈ im_ws := im_m 472 (by decide +kernel) rfl
theorem weX6_isClass : Cond.selects qR6 yX6_isClass yX6_isClass ∈ im_ws := im_m 10 (by decide +kernel) rfl
abbrev cX6_cls : ByteArray := prog_8_method_4_code
def yX6_cls : MethodName := ⟨qR6, "cls", "(IIZ)I"⟩
theorem wcX6_cls : Cond.code yX6_cls cX6_cls 4 (some .int) ∈ im_ws := im_m 462 (by decide +kernel) rfl
abbrev vX6_cls : List Cond := Cond.code yX6_cls cX6_cls 4 (some .int) :: im_ws
theorem wiX6_cls : Cond.instanceMethod yX6_cls ∈ im_ws := im_m 460 (by decide +kernel) rfl
theorem weX6_cls : Cond.selects qR6 yX6_cls yX6_cls ∈ im_ws := im_m 461 (by decide +kernel) rfl
abbrev cX6_insert : ByteArray := prog_8_method_5_code
def yX6_insert : MethodName := ⟨qR6, "insert", "(III)I"⟩
theorem wcX6_insert : Cond.code yX6_insert cX6_insert 4 (some .int) ∈ im_ws := im_m 469 (by decide +kernel) rfl
abbrev vX6_insert : List Cond := Cond.code yX6_insert cX6_insert 4 (some .int) :: im_ws
theorem wiX6_insert : Cond.instanceMethod yX6_insert ∈ im_ws := im_m 467 (by decide +kernel) rfl
theorem weX6_insert : Cond.selects qR6 yX6_insert yX6_insert ∈ im_ws := im_m 468 (by decide +kernel) rfl
abbrev cX6_mark : ByteArray := prog_8_method_6_code
def yX6_mark : MethodName := ⟨qR6, "mark", "(III)I"⟩
theorem wcX6_mark : Cond.code yX6_mark cX6_mark 4 (some .int) ∈ im_ws := im_m 477 (by decide +kernel) rfl
abbrev vX6_mark : List Cond := Cond.code yX6_mark cX6_mark 4 (some .int) :: im_ws
theorem wiX6_mark : Cond.instanceMethod yX6_mark ∈ im_ws := im_m 475 (by decide +kernel) rfl
theorem weX6_mark : Cond.selects qR6 yX6_mark yX6_mark ∈ im_ws := im_m 476 (by decide +kernel) rfl
abbrev cX6_standing : ByteArray := prog_8_method_7_code
def yX6_standing : MethodName := ⟨qR6, "standing", "(II)I"⟩
theorem wcX6_standing : Cond.code yX6_standing cX6_standing 5 (some .int) ∈ im_ws := im_m 493 (by decide +kernel) rfl
abbrev vX6_standing : List Cond := Cond.code yX6_standing cX6_standing 5 (some .int) :: im_ws
theorem wiX6_standing : Cond.instanceMethod yX6_standing ∈ im_ws := im_m 492 (by decide +kernel) rfl
theorem weX6_standing : Cond.selects qR6 yX6_standing yX6_standing ∈ im_ws := im_m 13 (by decide +kernel) rfl
abbrev cX6_place : ByteArray := prog_8_method_8_code
def yX6_place : MethodName := ⟨qR6, "place", "(IIZ)V"⟩
theorem wcX6_place : Cond.code yX6_place cX6_place 5 none ∈ im_ws := im_m 497 (by decide +kernel) rfl
abbrev vX6_place : List Cond := Cond.code yX6_place cX6_place 5 none :: im_ws
theorem wiX6_place : Cond.instanceMethod yX6_place ∈ im_ws := im_m 496 (by decide +kernel) rfl
theorem weX6_place : Cond.selects qR6 yX6_place yX6_place ∈ im_ws := im_m 14 (by decide +kernel) rfl
abbrev cX6_go : ByteArray := prog_8_method_9_code
def yX6_go : MethodName := ⟨qR6, "go", "(I)V"⟩
theorem wcX6_go : Cond.code yX6_go cX6_go 6 none ∈ im_ws := im_m 489 (by decide +kernel) rfl
abbrev vX6_go : List Cond := Cond.code yX6_go cX6_go 6 none :: im_ws
theorem wiX6_go : Cond.instanceMethod yX6_go ∈ im_ws := im_m 488 (by decide +kernel) rfl
theorem weX6_go : Cond.selects qR6 yX6_go yX6_go ∈ im_ws := im_m 12 (by decide +kernel) rfl
abbrev cX6_waits : ByteArray := prog_8_method_10_code
def yX6_waits : MethodName := ⟨qR6, "waits", "(I)Z"⟩
theorem wcX6_waits : Cond.code yX6_waits cX6_waits 2 (some .boolean) ∈ im_ws := im_m 485 (by decide +kernel) rfl
abbrev vX6_waits : List Cond := Cond.code yX6_waits cX6_waits 2 (some .boolean) :: im_ws
theorem wiX6_waits : Cond.instanceMethod yX6_waits ∈ im_ws := im_m 484 (by decide +kernel) rfl
theorem weX6_waits : Cond.selects qR6 yX6_waits yX6_waits ∈ im_ws := im_m 11 (by decide +kernel) rfl
abbrev cX6_isIn : ByteArray := prog_8_method_11_code
def yX6_isIn : MethodName := ⟨qR6, "isIn", "(II)Z"⟩
theorem wcX6_isIn : Cond.code yX6_isIn cX6_isIn 5 (some .boolean) ∈ im_ws := im_m 501 (by decide +kernel) rfl
abbrev vX6_isIn : List Cond := Cond.code yX6_isIn cX6_isIn 5 (some .boolean) :: im_ws
theorem wiX6_isIn : Cond.instanceMethod yX6_isIn ∈ im_ws := im_m 500 (by decide +kernel) rfl
theorem weX6_isIn : Cond.selects qR6 yX6_isIn yX6_isIn ∈ im_ws := im_m 15 (by decide +kernel) rfl
abbrev cX6_close : ByteArray := prog_8_method_12_code
def yX6_close : MethodName := ⟨qR6, "close", "()I"⟩
theorem wcX6_close : Cond.code yX6_close cX6_close 4 (some .int) ∈ im_ws := im_m 481 (by decide +kernel) rfl
abbrev vX6_close : List Cond := Cond.code yX6_close cX6_close 4 (some .int) :: im_ws
theorem wiX6_close : Cond.instanceMethod yX6_close ∈ im_ws := im_m 479 (by decide +kernel) rfl
theorem weX6_close : Cond.selects qR6 yX6_close yX6_close ∈ im_ws := im_m 480 (by decide +kernel) rfl
abbrev cX6_heldAt : ByteArray := prog_8_method_13_code
def yX6_heldAt : MethodName := ⟨qR6, "heldAt", "(I)I"⟩
theorem wcX6_heldAt : Cond.code yX6_heldAt cX6_heldAt 5 (some .int) ∈ im_ws := im_m 509 (by decide +kernel) rfl
abbrev vX6_heldAt : List Cond := Cond.code yX6_heldAt cX6_heldAt 5 (some .int) :: im_ws
theorem wiX6_heldAt : Cond.instanceMethod yX6_heldAt ∈ im_ws := im_m 508 (by decide +kernel) rfl
theorem weX6_heldAt : Cond.selects qR6 yX6_heldAt yX6_heldAt ∈ im_ws := im_m 16 (by decide +kernel) rfl
abbrev cX6_flush : ByteArray := prog_8_method_14_code
def yX6_flush : MethodName := ⟨qR6, "flush", "()I"⟩
theorem wcX6_flush : Cond.code yX6_flush cX6_flush 3 (some .int) ∈ im_ws := im_m 505 (by decide +kernel) rfl
abbrev vX6_flush : List Cond := Cond.code yX6_flush cX6_flush 3 (some .int) :: im_ws
theorem wiX6_flush : Cond.instanceMethod yX6_flush ∈ im_ws := im_m 503 (by decide +kernel) rfl
theorem weX6_flush : Cond.selects qR6 yX6_flush yX6_flush ∈ im_ws := im_m 504 (by decide +kernel) rfl
abbrev cX6_cancel : ByteArray := prog_8_method_15_code
def yX6_cancel : MethodName := ⟨qR6, "cancel", "(I)I"⟩
theorem wcX6_cancel : Cond.code yX6_cancel cX6_cancel 2 (some .int) ∈ im_ws := im_m 514 (by decide +kernel) rfl
abbrev vX6_cancel : List Cond := Cond.code yX6_cancel cX6_cancel 2 (some .int) :: im_ws
theorem wiX6_cancel : Cond.instanceMethod yX6_cancel ∈ im_ws := im_m 512 (by decide +kernel) rfl
theorem weX6_cancel : Cond.selects qR6 yX6_cancel yX6_cancel ∈ im_ws := im_m 513 (by decide +kernel) rfl
abbrev cX6_partAt : ByteArray := prog_8_method_16_code
def yX6_partAt : MethodName := ⟨qR6, "partAt", "(II)I"⟩
theorem wcX6_partAt : Cond.code yX6_partAt cX6_partAt 5 (some .int) ∈ im_ws := im_m 522 (by decide +kernel) rfl
abbrev vX6_partAt : List Cond := Cond.code yX6_partAt cX6_partAt 5 (some .int) :: im_ws
theorem wiX6_partAt : Cond.instanceMethod yX6_partAt ∈ im_ws := im_m 521 (by decide +kernel) rfl
theorem weX6_partAt : Cond.selects qR6 yX6_partAt yX6_partAt ∈ im_ws := im_m 17 (by decide +kernel) rfl
abbrev cX6_placed : ByteArray := prog_8_method_17_code
def yX6_placed : MethodName := ⟨qR6, "placed", "(III)I"⟩
theorem wcX6_placed : Cond.code yX6_placed cX6_placed 5 (some .int) ∈ im_ws := im_m 518 (by decide +kernel) rfl
abbrev vX6_placed : List Cond := Cond.code yX6_placed cX6_placed 5 (some .int) :: im_ws
theorem wiX6_placed : Cond.instanceMethod yX6_placed ∈ im_ws := im_m 516 (by decide +kernel) rfl
theorem weX6_placed : Cond.selects qR6 yX6_placed yX6_placed ∈ im_ws := im_m 517 (by decide +kernel) rfl
abbrev cX6_about : ByteArray := prog_8_method_18_code
def yX6_about : MethodName := ⟨qR6, "about", "(II)I"⟩
theorem wcX6_about : Cond.code yX6_about cX6_about 6 (some .int) ∈ im_ws := im_m 526 (by decide +kernel) rfl
abbrev vX6_about : List Cond := Cond.code yX6_about cX6_about 6 (some .int) :: im_ws
theorem wiX6_about : Cond.instanceMethod yX6_about ∈ im_ws := im_m 524 (by decide +kernel) rfl
theorem weX6_about : Cond.selects qR6 yX6_about yX6_about ∈ im_ws := im_m 525 (by decide +kernel) rfl
abbrev cX6_held : ByteArray := prog_8_method_19_code
def yX6_held : MethodName := ⟨qR6, "held", "(I)I"⟩
theorem wcX6_held : Cond.code yX6_held cX6_held 2 (some .int) ∈ im_ws := im_m 530 (by decide +kernel) rfl
abbrev vX6_held : List Cond := Cond.code yX6_held cX6_held 2 (some .int) :: im_ws
theorem wiX6_held : Cond.instanceMethod yX6_held ∈ im_ws := im_m 528 (by decide +kernel) rfl
theorem weX6_held : Cond.selects qR6 yX6_held yX6_held ∈ im_ws := im_m 529 (by decide +kernel) rfl
abbrev cX6_used : ByteArray := prog_8_method_20_code
def yX6_used : MethodName := ⟨qR6, "used", "(II)I"⟩
theorem wcX6_used : Cond.code yX6_used cX6_used 3 (some .int) ∈ im_ws := im_m 534 (by decide +kernel) rfl
abbrev vX6_used : List Cond := Cond.code yX6_used cX6_used 3 (some .int) :: im_ws
theorem wiX6_used : Cond.instanceMethod yX6_used ∈ im_ws := im_m 532 (by decide +kernel) rfl
theorem weX6_used : Cond.selects qR6 yX6_used yX6_used ∈ im_ws := im_m 533 (by decide +kernel) rfl
abbrev cX6_markOn : ByteArray := prog_8_method_21_code
def yX6_markOn : MethodName := ⟨qR6, "markOn", "(IIZ)I"⟩
theorem wcX6_markOn : Cond.code yX6_markOn cX6_markOn 6 (some .int) ∈ im_ws := im_m 542 (by decide +kernel) rfl
abbrev vX6_markOn : List Cond := Cond.code yX6_markOn cX6_markOn 6 (some .int) :: im_ws
theorem wiX6_markOn : Cond.instanceMethod yX6_markOn ∈ im_ws := im_m 541 (by decide +kernel) rfl
theorem weX6_markOn : Cond.selects qR6 yX6_markOn yX6_markOn ∈ im_ws := im_m 18 (by decide +kernel) rfl
abbrev cX6_lastBefore : ByteArray := prog_8_method_22_code
def yX6_lastBefore : MethodName := ⟨qR6, "lastBefore", "(II)I"⟩
theorem wcX6_lastBefore : Cond.code yX6_lastBefore cX6_lastBefore 5 (some .int) ∈ im_ws := im_m 546 (by decide +kernel) rfl
abbrev vX6_lastBefore : List Cond := Cond.code yX6_lastBefore cX6_lastBefore 5 (some .int) :: im_ws
theorem wiX6_lastBefore : Cond.instanceMethod yX6_lastBefore ∈ im_ws := im_m 545 (by decide +kernel) rfl
theorem weX6_lastBefore : Cond.selects qR6 yX6_lastBefore yX6_lastBefore ∈ im_ws := im_m 19 (by decide +kernel) rfl
abbrev cX6_seen : ByteArray := prog_8_method_23_code
def yX6_seen : MethodName := ⟨qR6, "seen", "(III)I"⟩
theorem wcX6_seen : Cond.code yX6_seen cX6_seen 5 (some .int) ∈ im_ws := im_m 538 (by decide +kernel) rfl
abbrev vX6_seen : List Cond := Cond.code yX6_seen cX6_seen 5 (some .int) :: im_ws
theorem wiX6_seen : Cond.instanceMethod yX6_seen ∈ im_ws := im_m 536 (by decide +kernel) rfl
theorem weX6_seen : Cond.selects qR6 yX6_seen yX6_seen ∈ im_ws := im_m 537 (by decide +kernel) rfl
abbrev cX6_count : ByteArray := prog_8_method_24_code
def yX6_count : MethodName := ⟨qR6, "count", "(I)I"⟩
theorem wcX6_count : Cond.code yX6_count cX6_count 3 (some .int) ∈ im_ws := im_m 550 (by decide +kernel) rfl
abbrev vX6_count : List Cond := Cond.code yX6_count cX6_count 3 (some .int) :: im_ws
theorem wiX6_count : Cond.instanceMethod yX6_count ∈ im_ws := im_m 548 (by decide +kernel) rfl
theorem weX6_count : Cond.selects qR6 yX6_count yX6_count ∈ im_ws := im_m 549 (by decide +kernel) rfl
abbrev cX0_init : ByteArray := prog_2_method_1_code
def yX0_init : MethodName := ⟨qR0, "<init>", "(ILInsertMarks$Kind;II)V"⟩
theorem wcX0_init : Cond.code yX0_init cX0_init 5 none ∈ im_ws := im_m 156 (by decide +kernel) rfl
abbrev vX0_init : List Cond := Cond.code yX0_init cX0_init 5 none :: im_ws
theorem wiX0_init : Cond.instanceMethod yX0_init ∈ im_ws := im_m 155 (by decide +kernel) rfl
abbrev cX0_isTakenBack : ByteArray := prog_2_method_2_code
def yX0_isTakenBack : MethodName := ⟨qR0, "isTakenBack", "()Z"⟩
theorem wcX0_isTakenBack : Cond.code yX0_isTakenBack cX0_isTakenBack 1 (some .boolean) ∈ im_ws := im_m 309 (by decide +kernel) rfl
abbrev vX0_isTakenBack : List Cond := Cond.code yX0_isTakenBack cX0_isTakenBack 1 (some .boolean) :: im_ws
theorem wiX0_isTakenBack : Cond.instanceMethod yX0_isTakenBack ∈ im_ws := im_m 307 (by decide +kernel) rfl
theorem weX0_isTakenBack : Cond.selects qR0 yX0_isTakenBack yX0_isTakenBack ∈ im_ws := im_m 308 (by decide +kernel) rfl
abbrev cX0_addPart : ByteArray := prog_2_method_3_code
def yX0_addPart : MethodName := ⟨qR0, "addPart", "(II)V"⟩
theorem wcX0_addPart : Cond.code yX0_addPart cX0_addPart 3 none ∈ im_ws := im_m 271 (by decide +kernel) rfl
abbrev vX0_addPart : List Cond := Cond.code yX0_addPart cX0_addPart 3 none :: im_ws
theorem wiX0_addPart : Cond.instanceMethod yX0_addPart ∈ im_ws := im_m 269 (by decide +kernel) rfl
theorem weX0_addPart : Cond.selects qR0 yX0_addPart yX0_addPart ∈ im_ws := im_m 270 (by decide +kernel) rfl
abbrev cX1_init : ByteArray := prog_3_method_1_code
def yX1_init : MethodName := ⟨qR1, "<init>", "(IIZ)V"⟩
theorem wcX1_init : Cond.code yX1_init cX1_init 4 none ∈ im_ws := im_m 103 (by decide +kernel) rfl
abbrev vX1_init : List Cond := Cond.code yX1_init cX1_init 4 none :: im_ws
theorem wiX1_init : Cond.instanceMethod yX1_init ∈ im_ws := im_m 102 (by decide +kernel) rfl
abbrev cX1_startPage : ByteArray := prog_3_method_2_code
def yX1_startPage : MethodName := ⟨qR1, "startPage", "()V"⟩
theorem wcX1_startPage : Cond.code yX1_startPage cX1_startPage 1 none ∈ im_ws := im_m 227 (by decide +kernel) rfl
abbrev vX1_startPage : List Cond := Cond.code yX1_startPage cX1_startPage 1 none :: im_ws
theorem wiX1_startPage : Cond.instanceMethod yX1_startPage ∈ im_ws := im_m 225 (by decide +kernel) rfl
theorem weX1_startPage : Cond.selects qR1 yX1_startPage yX1_startPage ∈ im_ws := im_m 226 (by decide +kernel) rfl
abbrev cX1_mayCut : ByteArray := prog_3_method_3_code
def yX1_mayCut : MethodName := ⟨qR1, "mayCut", "(II)Z"⟩
theorem wcX1_mayCut : Cond.code yX1_mayCut cX1_mayCut 3 (some .boolean) ∈ im_ws := im_m 297 (by decide +kernel) rfl
abbrev vX1_mayCut : List Cond := Cond.code yX1_mayCut cX1_mayCut 3 (some .boolean) :: im_ws
theorem wiX1_mayCut : Cond.instanceMethod yX1_mayCut ∈ im_ws := im_m 295 (by decide +kernel) rfl
theorem weX1_mayCut : Cond.selects qR1 yX1_mayCut yX1_mayCut ∈ im_ws := im_m 296 (by decide +kernel) rfl
abbrev cX1_nextNumber : ByteArray := prog_3_method_4_code
def yX1_nextNumber : MethodName := ⟨qR1, "nextNumber", "()I"⟩
theorem wcX1_nextNumber : Cond.code yX1_nextNumber cX1_nextNumber 1 (some .int) ∈ im_ws := im_m 275 (by decide +kernel) rfl
abbrev vX1_nextNumber : List Cond := Cond.code yX1_nextNumber cX1_nextNumber 1 (some .int) :: im_ws
theorem wiX1_nextNumber : Cond.instanceMethod yX1_nextNumber ∈ im_ws := im_m 273 (by decide +kernel) rfl
theorem weX1_nextNumber : Cond.selects qR1 yX1_nextNumber yX1_nextNumber ∈ im_ws := im_m 274 (by decide +kernel) rfl
abbrev cX1_addMark : ByteArray := prog_3_method_5_code
def yX1_addMark : MethodName := ⟨qR1, "addMark", "(II)V"⟩
theorem wcX1_addMark : Cond.code yX1_addMark cX1_addMark 3 none ∈ im_ws := im_m 199 (by decide +kernel) rfl
abbrev vX1_addMark : List Cond := Cond.code yX1_addMark cX1_addMark 3 none :: im_ws
theorem wiX1_addMark : Cond.instanceMethod yX1_addMark ∈ im_ws := im_m 197 (by decide +kernel) rfl
theorem weX1_addMark : Cond.selects qR1 yX1_addMark yX1_addMark ∈ im_ws := im_m 198 (by decide +kernel) rfl
abbrev cX1_topMark : ByteArray := prog_3_method_6_code
def yX1_topMark : MethodName := ⟨qR1, "topMark", "(I)I"⟩
theorem wcX1_topMark : Cond.code yX1_topMark cX1_topMark 3 (some .int) ∈ im_ws := im_m 351 (by decide +kernel) rfl
abbrev vX1_topMark : List Cond := Cond.code yX1_topMark cX1_topMark 3 (some .int) :: im_ws
theorem wiX1_topMark : Cond.instanceMethod yX1_topMark ∈ im_ws := im_m 349 (by decide +kernel) rfl
theorem weX1_topMark : Cond.selects qR1 yX1_topMark yX1_topMark ∈ im_ws := im_m 350 (by decide +kernel) rfl
abbrev cX1_firstMark : ByteArray := prog_3_method_7_code
def yX1_firstMark : MethodName := ⟨qR1, "firstMark", "(I)I"⟩
theorem wcX1_firstMark : Cond.code yX1_firstMark cX1_firstMark 2 (some .int) ∈ im_ws := im_m 355 (by decide +kernel) rfl
abbrev vX1_firstMark : List Cond := Cond.code yX1_firstMark cX1_firstMark 2 (some .int) :: im_ws
theorem wiX1_firstMark : Cond.instanceMethod yX1_firstMark ∈ im_ws := im_m 353 (by decide +kernel) rfl
theorem weX1_firstMark : Cond.selects qR1 yX1_firstMark yX1_firstMark ∈ im_ws := im_m 354 (by decide +kernel) rfl
abbrev cX1_lastMark : ByteArray := prog_3_method_8_code
def yX1_lastMark : MethodName := ⟨qR1, "lastMark", "(I)I"⟩
theorem wcX1_lastMark : Cond.code yX1_lastMark cX1_lastMark 2 (some .int) ∈ im_ws := im_m 360 (by decide +kernel) rfl
abbrev vX1_lastMark : List Cond := Cond.code yX1_lastMark cX1_lastMark 2 (some .int) :: im_ws
theorem wiX1_lastMark : Cond.instanceMethod yX1_lastMark ∈ im_ws := im_m 358 (by decide +kernel) rfl
theorem weX1_lastMark : Cond.selects qR1 yX1_lastMark yX1_lastMark ∈ im_ws := im_m 359 (by decide +kernel) rfl
abbrev cX2_init : ByteArray := prog_4_method_1_code
def yX2_init : MethodName := ⟨qR2, "<init>", "()V"⟩
theorem wcX2_init : Cond.code yX2_init cX2_init 1 none ∈ im_ws := im_m 47 (by decide +kernel) rfl
abbrev vX2_init : List Cond := Cond.code yX2_init cX2_init 1 none :: im_ws
theorem wiX2_init : Cond.instanceMethod yX2_init ∈ im_ws := im_m 46 (by decide +kernel) rfl
abbrev cX2_append : ByteArray := prog_4_method_2_code
def yX2_append : MethodName := ⟨qR2, "append", "(I)V"⟩
theorem wcX2_append : Cond.code yX2_append cX2_append 2 none ∈ im_ws := im_m 219 (by decide +kernel) rfl
abbrev vX2_append : List Cond := Cond.code yX2_append cX2_append 2 none :: im_ws
theorem wiX2_append : Cond.instanceMethod yX2_append ∈ im_ws := im_m 217 (by decide +kernel) rfl
theorem weX2_append : Cond.selects qR2 yX2_append yX2_append ∈ im_ws := im_m 218 (by decide +kernel) rfl
abbrev cX2_indexAt : ByteArray := prog_4_method_3_code
def yX2_indexAt : MethodName := ⟨qR2, "indexAt", "(I)I"⟩
theorem wcX2_indexAt : Cond.code yX2_indexAt cX2_indexAt 2 (some .int) ∈ im_ws := im_m 338 (by decide +kernel) rfl
abbrev vX2_indexAt : List Cond := Cond.code yX2_indexAt cX2_indexAt 2 (some .int) :: im_ws
theorem wiX2_indexAt : Cond.instanceMethod yX2_indexAt ∈ im_ws := im_m 336 (by decide +kernel) rfl
theorem weX2_indexAt : Cond.selects qR2 yX2_indexAt yX2_indexAt ∈ im_ws := im_m 337 (by decide +kernel) rfl
abbrev cX2_takeOut : ByteArray := prog_4_method_4_code
def yX2_takeOut : MethodName := ⟨qR2, "takeOut", "(I)V"⟩
theorem wcX2_takeOut : Cond.code yX2_takeOut cX2_takeOut 4 none ∈ im_ws := im_m 313 (by decide +kernel) rfl
abbrev vX2_takeOut : List Cond := Cond.code yX2_takeOut cX2_takeOut 4 none :: im_ws
theorem wiX2_takeOut : Cond.instanceMethod yX2_takeOut ∈ im_ws := im_m 311 (by decide +kernel) rfl
theorem weX2_takeOut : Cond.selects qR2 yX2_takeOut yX2_takeOut ∈ im_ws := im_m 312 (by decide +kernel) rfl
abbrev cX3_init : ByteArray := prog_5_method_1_code
def yX3_init : MethodName := ⟨qR3, "<init>", "(II)V"⟩
theorem wcX3_init : Cond.code yX3_init cX3_init 3 none ∈ im_ws := im_m 231 (by decide +kernel) rfl
abbrev vX3_init : List Cond := Cond.code yX3_init cX3_init 3 none :: im_ws
theorem wiX3_init : Cond.instanceMethod yX3_init ∈ im_ws := im_m 230 (by decide +kernel) rfl
abbrev cX3_place : ByteArray := prog_5_method_2_code
def yX3_place : MethodName := ⟨qR3, "place", "(LInsertMarks$Insert;IZ)V"⟩
theorem wcX3_place : Cond.code yX3_place cX3_place 4 none ∈ im_ws := im_m 267 (by decide +kernel) rfl
abbrev vX3_place : List Cond := Cond.code yX3_place cX3_place 4 none :: im_ws
theorem wiX3_place : Cond.instanceMethod yX3_place ∈ im_ws := im_m 265 (by decide +kernel) rfl
theorem weX3_place : Cond.selects qR3 yX3_place yX3_place ∈ im_ws := im_m 266 (by decide +kernel) rfl
abbrev cX3_partAt : ByteArray := prog_5_method_3_code
def yX3_partAt : MethodName := ⟨qR3, "partAt", "(I)LInsertMarks$Part;"⟩
theorem wcX3_partAt : Cond.code yX3_partAt cX3_partAt 2 (some (.object "InsertMarks$Part")) ∈ im_ws := im_m 325 (by decide +kernel) rfl
abbrev vX3_partAt : List Cond := Cond.code yX3_partAt cX3_partAt 2 (some (.object "InsertMarks$Part")) :: im_ws
theorem wiX3_partAt : Cond.instanceMethod yX3_partAt ∈ im_ws := im_m 323 (by decide +kernel) rfl
theorem weX3_partAt : Cond.selects qR3 yX3_partAt yX3_partAt ∈ im_ws := im_m 324 (by decide +kernel) rfl
abbrev cX4_init : ByteArray := prog_6_method_1_code
def yX4_init : MethodName := ⟨qR4, "<init>", "(LInsertMarks$Insert;IZ)V"⟩
theorem wcX4_init : Cond.code yX4_init cX4_init 4 none ∈ im_ws := im_m 279 (by decide +kernel) rfl
abbrev vX4_init : List Cond := Cond.code yX4_init cX4_init 4 none :: im_ws
theorem wiX4_init : Cond.instanceMethod yX4_init ∈ im_ws := im_m 278 (by decide +kernel) rfl
abbrev cX7_cell : ByteArray := method_2_code
def yX7_cell : MethodName := ⟨"InsertMarksLaw", "cell", "([II)I"⟩
theorem wcX7_cell : Cond.code yX7_cell cX7_cell 2 (some .int) ∈ im_ws := im_m 367 (by decide +kernel) rfl
abbrev vX7_cell : List Cond := Cond.code yX7_cell cX7_cell 2 (some .int) :: im_ws
theorem wtX7_cell : Cond.static yX7_cell ∈ im_ws := im_m 366 (by decide +kernel) rfl
theorem wz7 : Cond.initialized "InsertMarksLaw" ∈ im_ws := im_m 20 (by decide +kernel) rfl
theorem wz5 : Cond.initialized qR5 ∈ im_ws := im_m 21 (by decide +kernel) rfl
theorem wz2 : Cond.initialized qR2 ∈ im_ws := im_m 22 (by decide +kernel) rfl
theorem wz_math : Cond.initialized "java/lang/Math" ∈ im_ws := im_m 23 (by decide +kernel) rfl
theorem wz6 : Cond.initialized qR6 ∈ im_ws := im_m 24 (by decide +kernel) rfl
theorem wz1 : Cond.initialized qR1 ∈ im_ws := im_m 25 (by decide +kernel) rfl
theorem wz0 : Cond.initialized qR0 ∈ im_ws := im_m 26 (by decide +kernel) rfl
theorem wz3 : Cond.initialized qR3 ∈ im_ws := im_m 27 (by decide +kernel) rfl
theorem wz4 : Cond.initialized qR4 ∈ im_ws := im_m 28 (by decide +kernel) rfl
theorem wl7_7 : Cond.classLink "InsertMarksLaw" 7 qR5 ∈ im_ws := im_m 29 (by decide +kernel) rfl
theorem wn5 : Cond.instantiable qR5 9 ∈ im_ws := im_m 30 (by decide +kernel) rfl
theorem wm7_15 : Cond.methodLink "InsertMarksLaw" 15 yX5_init ∈ im_ws := im_m 31 (by decide +kernel) rfl
theorem wm5_1 : Cond.methodLink qR5 1 objectInit ∈ im_ws := im_m 34 (by decide +kernel) rfl
-- instanceMethod ('java/lang/Object', '<init>', '()V') at 35
-- code ('java/lang/Object', '<init>', '()V') at 36
theorem wl5_9 : Cond.classLink qR5 9 qR1 ∈ im_ws := im_m 37 (by decide +kernel) rfl
theorem wl5_15 : Cond.classLink qR5 15 qR0 ∈ im_ws := im_m 39 (by decide +kernel) rfl
theorem wl5_21 : Cond.classLink qR5 21 qR3 ∈ im_ws := im_m 41 (by decide +kernel) rfl
theorem wl5_27 : Cond.classLink qR5 27 qR2 ∈ im_ws := im_m 43 (by decide +kernel) rfl
theorem wn2 : Cond.instantiable qR2 2 ∈ im_ws := im_m 44 (by decide +kernel) rfl
theorem wm2_3 : Cond.methodLink qR2 3 objectInit ∈ im_ws := im_m 48 (by decide +kernel) rfl
theorem wf2_9 : Cond.fieldLink qR2 9 "InsertMarks$Line" "row" "[I" ∈ im_ws := im_m 49 (by decide +kernel) rfl
theorem wf5_173 : Cond.fieldLink qR5 173 "InsertMarks$Line" "row" "[I" ∈ im_ws := im_m 50 (by decide +kernel) rfl
theorem wf2_15 : Cond.fieldLink qR2 15 "InsertMarks$Line" "length" "I" ∈ im_ws := im_m 51 (by decide +kernel) rfl
theorem wf5_88 : Cond.fieldLink qR5 88 "InsertMarks$Line" "length" "I" ∈ im_ws := im_m 52 (by decide +kernel) rfl
theorem wa_int : Cond.arrayClass .int ∈ im_ws := im_m 58 (by decide +kernel) rfl
theorem wm5_34 : Cond.methodLink qR5 34 Lib.Math.min.name ∈ im_ws := im_m 59 (by decide +kernel) rfl
-- static ('java/lang/Math', 'min', '(II)I') at 60
-- code ('java/lang/Math', 'min', '(II)I') at 61
theorem wm5_40 : Cond.methodLink qR5 40 Lib.Math.max.name ∈ im_ws := im_m 62 (by decide +kernel) rfl
-- static ('java/lang/Math', 'max', '(II)I') at 63
-- code ('java/lang/Math', 'max', '(II)I') at 64
theorem wf5_43 : Cond.fieldLink qR5 43 "InsertMarks" "pageRoom" "I" ∈ im_ws := im_m 65 (by decide +kernel) rfl
theorem wf5_11 : Cond.fieldLink qR5 11 "InsertMarks" "kinds" "[LInsertMarks$Kind;" ∈ im_ws := im_m 66 (by decide +kernel) rfl
theorem wf5_17 : Cond.fieldLink qR5 17 "InsertMarks" "inserts" "[LInsertMarks$Insert;" ∈ im_ws := im_m 67 (by decide +kernel) rfl
theorem wf5_23 : Cond.fieldLink qR5 23 "InsertMarks" "pages" "[LInsertMarks$Page;" ∈ im_ws := im_m 68 (by decide +kernel) rfl
theorem wf5_30 : Cond.fieldLink qR5 30 "InsertMarks" "line" "LInsertMarks$Line;" ∈ im_ws := im_m 69 (by decide +kernel) rfl
theorem wf5_51 : Cond.fieldLink qR5 51 "InsertMarks" "kindCount" "I" ∈ im_ws := im_m 70 (by decide +kernel) rfl
theorem wf5_68 : Cond.fieldLink qR5 68 "InsertMarks" "insertCount" "I" ∈ im_ws := im_m 71 (by decide +kernel) rfl
theorem wf5_74 : Cond.fieldLink qR5 74 "InsertMarks" "markCount" "I" ∈ im_ws := im_m 72 (by decide +kernel) rfl
theorem wf5_81 : Cond.fieldLink qR5 81 "InsertMarks" "closedCount" "I" ∈ im_ws := im_m 73 (by decide +kernel) rfl
theorem wm7_21 : Cond.methodLink "InsertMarksLaw" 21 yX5_cls ∈ im_ws := im_m 93 (by decide +kernel) rfl
theorem wm5_47 : Cond.methodLink qR5 47 yX5_isWithin ∈ im_ws := im_m 97 (by decide +kernel) rfl
theorem wn1 : Cond.instantiable qR1 9 ∈ im_ws := im_m 100 (by decide +kernel) rfl
theorem wm5_54 : Cond.methodLink qR5 54 yX1_init ∈ im_ws := im_m 101 (by decide +kernel) rfl
theorem wm1_3 : Cond.methodLink qR1 3 objectInit ∈ im_ws := im_m 104 (by decide +kernel) rfl
theorem wf1_25 : Cond.fieldLink qR1 25 "InsertMarks$Kind" "room" "I" ∈ im_ws := im_m 105 (by decide +kernel) rfl
theorem wf5_208 : Cond.fieldLink qR5 208 "InsertMarks$Kind" "room" "I" ∈ im_ws := im_m 106 (by decide +kernel) rfl
theorem wf1_29 : Cond.fieldLink qR1 29 "InsertMarks$Kind" "least" "I" ∈ im_ws := im_m 107 (by decide +kernel) rfl
theorem wf1_32 : Cond.fieldLink qR1 32 "InsertMarks$Kind" "anew" "Z" ∈ im_ws := im_m 108 (by decide +kernel) rfl
theorem wf1_9 : Cond.fieldLink qR1 9 "InsertMarks$Kind" "sizeOn" "[I" ∈ im_ws := im_m 109 (by decide +kernel) rfl
theorem wf3_44 : Cond.fieldLink qR3 44 "InsertMarks$Kind" "sizeOn" "[I" ∈ im_ws := im_m 110 (by decide +kernel) rfl
theorem wf5_146 : Cond.fieldLink qR5 146 "InsertMarks$Kind" "sizeOn" "[I" ∈ im_ws := im_m 111 (by decide +kernel) rfl
theorem wf1_15 : Cond.fieldLink qR1 15 "InsertMarks$Kind" "hasMark" "[Z" ∈ im_ws := im_m 112 (by decide +kernel) rfl
theorem wf1_19 : Cond.fieldLink qR1 19 "InsertMarks$Kind" "firstTold" "[I" ∈ im_ws := im_m 113 (by decide +kernel) rfl
theorem wf1_22 : Cond.fieldLink qR1 22 "InsertMarks$Kind" "lastTold" "[I" ∈ im_ws := im_m 114 (by decide +kernel) rfl
theorem wf1_39 : Cond.fieldLink qR1 39 "InsertMarks$Kind" "latestNumber" "I" ∈ im_ws := im_m 115 (by decide +kernel) rfl
theorem wf1_36 : Cond.fieldLink qR1 36 "InsertMarks$Kind" "holds" "Z" ∈ im_ws := im_m 116 (by decide +kernel) rfl
theorem wf5_193 : Cond.fieldLink qR5 193 "InsertMarks$Kind" "holds" "Z" ∈ im_ws := im_m 117 (by decide +kernel) rfl
theorem wa_boolean : Cond.arrayClass .boolean ∈ im_ws := im_m 137 (by decide +kernel) rfl
theorem wm7_26 : Cond.methodLink "InsertMarksLaw" 26 yX5_insert ∈ im_ws := im_m 138 (by decide +kernel) rfl
theorem wm5_57 : Cond.methodLink qR5 57 yX5_kindAt ∈ im_ws := im_m 142 (by decide +kernel) rfl
theorem wm5_61 : Cond.methodLink qR5 61 yX5_isPage ∈ im_ws := im_m 146 (by decide +kernel) rfl
theorem wm5_65 : Cond.methodLink qR5 65 yX5_isClosed ∈ im_ws := im_m 149 (by decide +kernel) rfl
theorem wn0 : Cond.instantiable qR0 8 ∈ im_ws := im_m 153 (by decide +kernel) rfl
theorem wm5_71 : Cond.methodLink qR5 71 yX0_init ∈ im_ws := im_m 154 (by decide +kernel) rfl
theorem wm0_3 : Cond.methodLink qR0 3 objectInit ∈ im_ws := im_m 157 (by decide +kernel) rfl
theorem wf0_21 : Cond.fieldLink qR0 21 "InsertMarks$Insert" "index" "I" ∈ im_ws := im_m 158 (by decide +kernel) rfl
theorem wf5_123 : Cond.fieldLink qR5 123 "InsertMarks$Insert" "index" "I" ∈ im_ws := im_m 159 (by decide +kernel) rfl
theorem wf0_24 : Cond.fieldLink qR0 24 "InsertMarks$Insert" "kind" "LInsertMarks$Kind;" ∈ im_ws := im_m 160 (by decide +kernel) rfl
theorem wf3_40 : Cond.fieldLink qR3 40 "InsertMarks$Insert" "kind" "LInsertMarks$Kind;" ∈ im_ws := im_m 161 (by decide +kernel) rfl
theorem wf5_189 : Cond.fieldLink qR5 189 "InsertMarks$Insert" "kind" "LInsertMarks$Kind;" ∈ im_ws := im_m 162 (by decide +kernel) rfl
theorem wf0_28 : Cond.fieldLink qR0 28 "InsertMarks$Insert" "page" "I" ∈ im_ws := im_m 163 (by decide +kernel) rfl
theorem wf5_183 : Cond.fieldLink qR5 183 "InsertMarks$Insert" "page" "I" ∈ im_ws := im_m 164 (by decide +kernel) rfl
theorem wf0_31 : Cond.fieldLink qR0 31 "InsertMarks$Insert" "rest" "I" ∈ im_ws := im_m 165 (by decide +kernel) rfl
theorem wf5_102 : Cond.fieldLink qR5 102 "InsertMarks$Insert" "rest" "I" ∈ im_ws := im_m 166 (by decide +kernel) rfl
theorem wf0_9 : Cond.fieldLink qR0 9 "InsertMarks$Insert" "number" "I" ∈ im_ws := im_m 167 (by decide +kernel) rfl
theorem wf5_129 : Cond.fieldLink qR5 129 "InsertMarks$Insert" "number" "I" ∈ im_ws := im_m 168 (by decide +kernel) rfl
theorem wf0_15 : Cond.fieldLink qR0 15 "InsertMarks$Insert" "firstPage" "I" ∈ im_ws := im_m 169 (by decide +kernel) rfl
theorem wf5_136 : Cond.fieldLink qR5 136 "InsertMarks$Insert" "firstPage" "I" ∈ im_ws := im_m 170 (by decide +kernel) rfl
theorem wf0_18 : Cond.fieldLink qR0 18 "InsertMarks$Insert" "latestPage" "I" ∈ im_ws := im_m 171 (by decide +kernel) rfl
theorem wf5_139 : Cond.fieldLink qR5 139 "InsertMarks$Insert" "latestPage" "I" ∈ im_ws := im_m 172 (by decide +kernel) rfl
theorem wf0_34 : Cond.fieldLink qR0 34 "InsertMarks$Insert" "partCount" "I" ∈ im_ws := im_m 173 (by decide +kernel) rfl
theorem wf5_95 : Cond.fieldLink qR5 95 "InsertMarks$Insert" "partCount" "I" ∈ im_ws := im_m 174 (by decide +kernel) rfl
theorem wm7_31 : Cond.methodLink "InsertMarksLaw" 31 yX5_mark ∈ im_ws := im_m 192 (by decide +kernel) rfl
theorem wm5_77 : Cond.methodLink qR5 77 yX1_addMark ∈ im_ws := im_m 196 (by decide +kernel) rfl
theorem wm7_35 : Cond.methodLink "InsertMarksLaw" 35 yX5_close ∈ im_ws := im_m 200 (by decide +kernel) rfl
theorem wm5_84 : Cond.methodLink qR5 84 yX5_closeNextPage ∈ im_ws := im_m 204 (by decide +kernel) rfl
theorem wm5_160 : Cond.methodLink qR5 160 yX5_lineUpInsertsOf ∈ im_ws := im_m 208 (by decide +kernel) rfl
theorem wm5_91 : Cond.methodLink qR5 91 yX5_insertAt ∈ im_ws := im_m 212 (by decide +kernel) rfl
theorem wm5_180 : Cond.methodLink qR5 180 yX2_append ∈ im_ws := im_m 216 (by decide +kernel) rfl
theorem wm5_163 : Cond.methodLink qR5 163 yX5_startPageInKinds ∈ im_ws := im_m 220 (by decide +kernel) rfl
theorem wm5_186 : Cond.methodLink qR5 186 yX1_startPage ∈ im_ws := im_m 224 (by decide +kernel) rfl
theorem wn3 : Cond.instantiable qR3 4 ∈ im_ws := im_m 228 (by decide +kernel) rfl
theorem wm5_166 : Cond.methodLink qR5 166 yX3_init ∈ im_ws := im_m 229 (by decide +kernel) rfl
theorem wm3_1 : Cond.methodLink qR3 1 objectInit ∈ im_ws := im_m 232 (by decide +kernel) rfl
theorem wm3_13 : Cond.methodLink qR3 13 Lib.Math.max.name ∈ im_ws := im_m 233 (by decide +kernel) rfl
theorem wl3_19 : Cond.classLink qR3 19 qR4 ∈ im_ws := im_m 234 (by decide +kernel) rfl
theorem wf3_7 : Cond.fieldLink qR3 7 "InsertMarks$Page" "number" "I" ∈ im_ws := im_m 236 (by decide +kernel) rfl
theorem wf5_211 : Cond.fieldLink qR5 211 "InsertMarks$Page" "number" "I" ∈ im_ws := im_m 237 (by decide +kernel) rfl
theorem wf3_21 : Cond.fieldLink qR3 21 "InsertMarks$Page" "parts" "[LInsertMarks$Part;" ∈ im_ws := im_m 238 (by decide +kernel) rfl
theorem wf3_25 : Cond.fieldLink qR3 25 "InsertMarks$Page" "partCount" "I" ∈ im_ws := im_m 239 (by decide +kernel) rfl
theorem wf5_172 : Cond.fieldLink qR5 172 "InsertMarks$Page" "partCount" "I" ∈ im_ws := im_m 240 (by decide +kernel) rfl
theorem wf3_37 : Cond.fieldLink qR3 37 "InsertMarks$Page" "size" "I" ∈ im_ws := im_m 241 (by decide +kernel) rfl
theorem wf5_150 : Cond.fieldLink qR5 150 "InsertMarks$Page" "size" "I" ∈ im_ws := im_m 242 (by decide +kernel) rfl
theorem wm5_168 : Cond.methodLink qR5 168 yX5_goThroughLine ∈ im_ws := im_m 252 (by decide +kernel) rfl
theorem wm5_176 : Cond.methodLink qR5 176 yX5_goThrough ∈ im_ws := im_m 256 (by decide +kernel) rfl
theorem wm5_196 : Cond.methodLink qR5 196 yX5_freeOn ∈ im_ws := im_m 260 (by decide +kernel) rfl
theorem wm5_200 : Cond.methodLink qR5 200 yX3_place ∈ im_ws := im_m 264 (by decide +kernel) rfl
theorem wm3_28 : Cond.methodLink qR3 28 yX0_addPart ∈ im_ws := im_m 268 (by decide +kernel) rfl
theorem wm0_37 : Cond.methodLink qR0 37 yX1_nextNumber ∈ im_ws := im_m 272 (by decide +kernel) rfl
theorem wn4 : Cond.instantiable qR4 3 ∈ im_ws := im_m 276 (by decide +kernel) rfl
theorem wm3_34 : Cond.methodLink qR3 34 yX4_init ∈ im_ws := im_m 277 (by decide +kernel) rfl
theorem wm4_1 : Cond.methodLink qR4 1 objectInit ∈ im_ws := im_m 280 (by decide +kernel) rfl
theorem wf4_7 : Cond.fieldLink qR4 7 "InsertMarks$Part" "owner" "LInsertMarks$Insert;" ∈ im_ws := im_m 281 (by decide +kernel) rfl
theorem wf5_117 : Cond.fieldLink qR5 117 "InsertMarks$Part" "owner" "LInsertMarks$Insert;" ∈ im_ws := im_m 282 (by decide +kernel) rfl
theorem wf4_13 : Cond.fieldLink qR4 13 "InsertMarks$Part" "size" "I" ∈ im_ws := im_m 283 (by decide +kernel) rfl
theorem wf5_126 : Cond.fieldLink qR5 126 "InsertMarks$Part" "size" "I" ∈ im_ws := im_m 284 (by decide +kernel) rfl
theorem wf4_17 : Cond.fieldLink qR4 17 "InsertMarks$Part" "over" "Z" ∈ im_ws := im_m 285 (by decide +kernel) rfl
theorem wf5_132 : Cond.fieldLink qR5 132 "InsertMarks$Part" "over" "Z" ∈ im_ws := im_m 286 (by decide +kernel) rfl
theorem wm5_204 : Cond.methodLink qR5 204 yX1_mayCut ∈ im_ws := im_m 294 (by decide +kernel) rfl
theorem wm7_40 : Cond.methodLink "InsertMarksLaw" 40 yX5_flush ∈ im_ws := im_m 298 (by decide +kernel) rfl
theorem wm7_44 : Cond.methodLink "InsertMarksLaw" 44 yX5_cancel ∈ im_ws := im_m 302 (by decide +kernel) rfl
theorem wm5_98 : Cond.methodLink qR5 98 yX0_isTakenBack ∈ im_ws := im_m 306 (by decide +kernel) rfl
theorem wm5_105 : Cond.methodLink qR5 105 yX2_takeOut ∈ im_ws := im_m 310 (by decide +kernel) rfl
theorem wm7_49 : Cond.methodLink "InsertMarksLaw" 49 yX5_placed ∈ im_ws := im_m 314 (by decide +kernel) rfl
theorem wm5_109 : Cond.methodLink qR5 109 yX5_closedPageAt ∈ im_ws := im_m 318 (by decide +kernel) rfl
theorem wm5_113 : Cond.methodLink qR5 113 yX3_partAt ∈ im_ws := im_m 322 (by decide +kernel) rfl
theorem wm7_53 : Cond.methodLink "InsertMarksLaw" 53 yX5_about ∈ im_ws := im_m 327 (by decide +kernel) rfl
theorem wm7_58 : Cond.methodLink "InsertMarksLaw" 58 yX5_held ∈ im_ws := im_m 331 (by decide +kernel) rfl
theorem wm5_142 : Cond.methodLink qR5 142 yX2_indexAt ∈ im_ws := im_m 335 (by decide +kernel) rfl
theorem wm7_62 : Cond.methodLink "InsertMarksLaw" 62 yX5_used ∈ im_ws := im_m 340 (by decide +kernel) rfl
theorem wm7_66 : Cond.methodLink "InsertMarksLaw" 66 yX5_seen ∈ im_ws := im_m 344 (by decide +kernel) rfl
theorem wm5_151 : Cond.methodLink qR5 151 yX1_topMark ∈ im_ws := im_m 348 (by decide +kernel) rfl
theorem wm5_154 : Cond.methodLink qR5 154 yX1_firstMark ∈ im_ws := im_m 352 (by decide +kernel) rfl
theorem wm1_42 : Cond.methodLink qR1 42 yX1_topMark ∈ im_ws := im_m 356 (by decide +kernel) rfl
theorem wm5_157 : Cond.methodLink qR5 157 yX1_lastMark ∈ im_ws := im_m 357 (by decide +kernel) rfl
theorem wm7_70 : Cond.methodLink "InsertMarksLaw" 70 yX5_count ∈ im_ws := im_m 361 (by decide +kernel) rfl
theorem wm7_9 : Cond.methodLink "InsertMarksLaw" 9 yX7_cell ∈ im_ws := im_m 365 (by decide +kernel) rfl
theorem wl7_18 : Cond.classLink "InsertMarksLaw" 18 qR6 ∈ im_ws := im_m 368 (by decide +kernel) rfl
theorem wn6 : Cond.instantiable qR6 28 ∈ im_ws := im_m 369 (by decide +kernel) rfl
theorem wm7_20 : Cond.methodLink "InsertMarksLaw" 20 yX6_init ∈ im_ws := im_m 370 (by decide +kernel) rfl
theorem wm6_1 : Cond.methodLink qR6 1 objectInit ∈ im_ws := im_m 373 (by decide +kernel) rfl
theorem wf6_71 : Cond.fieldLink qR6 71 "InsertMarksModel" "room" "I" ∈ im_ws := im_m 374 (by decide +kernel) rfl
theorem wf6_75 : Cond.fieldLink qR6 75 "InsertMarksModel" "classes" "I" ∈ im_ws := im_m 375 (by decide +kernel) rfl
theorem wf6_7 : Cond.fieldLink qR6 7 "InsertMarksModel" "rooms" "[I" ∈ im_ws := im_m 376 (by decide +kernel) rfl
theorem wf6_13 : Cond.fieldLink qR6 13 "InsertMarksModel" "leasts" "[I" ∈ im_ws := im_m 377 (by decide +kernel) rfl
theorem wf6_16 : Cond.fieldLink qR6 16 "InsertMarksModel" "anew" "[Z" ∈ im_ws := im_m 378 (by decide +kernel) rfl
theorem wf6_20 : Cond.fieldLink qR6 20 "InsertMarksModel" "last" "[I" ∈ im_ws := im_m 379 (by decide +kernel) rfl
theorem wf6_89 : Cond.fieldLink qR6 89 "InsertMarksModel" "inserts" "I" ∈ im_ws := im_m 380 (by decide +kernel) rfl
theorem wf6_23 : Cond.fieldLink qR6 23 "InsertMarksModel" "classOf" "[I" ∈ im_ws := im_m 381 (by decide +kernel) rfl
theorem wf6_26 : Cond.fieldLink qR6 26 "InsertMarksModel" "rest" "[I" ∈ im_ws := im_m 382 (by decide +kernel) rfl
theorem wf6_29 : Cond.fieldLink qR6 29 "InsertMarksModel" "pageOf" "[I" ∈ im_ws := im_m 383 (by decide +kernel) rfl
theorem wf6_32 : Cond.fieldLink qR6 32 "InsertMarksModel" "numbers" "[I" ∈ im_ws := im_m 384 (by decide +kernel) rfl
theorem wf6_35 : Cond.fieldLink qR6 35 "InsertMarksModel" "gone" "[Z" ∈ im_ws := im_m 385 (by decide +kernel) rfl
theorem wf6_38 : Cond.fieldLink qR6 38 "InsertMarksModel" "partsOf" "[I" ∈ im_ws := im_m 386 (by decide +kernel) rfl
theorem wf6_92 : Cond.fieldLink qR6 92 "InsertMarksModel" "marks" "I" ∈ im_ws := im_m 387 (by decide +kernel) rfl
theorem wf6_41 : Cond.fieldLink qR6 41 "InsertMarksModel" "markClass" "[I" ∈ im_ws := im_m 388 (by decide +kernel) rfl
theorem wf6_44 : Cond.fieldLink qR6 44 "InsertMarksModel" "markPage" "[I" ∈ im_ws := im_m 389 (by decide +kernel) rfl
theorem wf6_47 : Cond.fieldLink qR6 47 "InsertMarksModel" "markValue" "[I" ∈ im_ws := im_m 390 (by decide +kernel) rfl
theorem wf6_86 : Cond.fieldLink qR6 86 "InsertMarksModel" "closed" "I" ∈ im_ws := im_m 391 (by decide +kernel) rfl
theorem wf6_95 : Cond.fieldLink qR6 95 "InsertMarksModel" "parts" "I" ∈ im_ws := im_m 392 (by decide +kernel) rfl
theorem wf6_50 : Cond.fieldLink qR6 50 "InsertMarksModel" "partPage" "[I" ∈ im_ws := im_m 393 (by decide +kernel) rfl
theorem wf6_53 : Cond.fieldLink qR6 53 "InsertMarksModel" "partInsert" "[I" ∈ im_ws := im_m 394 (by decide +kernel) rfl
theorem wf6_56 : Cond.fieldLink qR6 56 "InsertMarksModel" "partSize" "[I" ∈ im_ws := im_m 395 (by decide +kernel) rfl
theorem wf6_59 : Cond.fieldLink qR6 59 "InsertMarksModel" "partOver" "[Z" ∈ im_ws := im_m 396 (by decide +kernel) rfl
theorem wf6_109 : Cond.fieldLink qR6 109 "InsertMarksModel" "before" "I" ∈ im_ws := im_m 397 (by decide +kernel) rfl
theorem wf6_62 : Cond.fieldLink qR6 62 "InsertMarksModel" "order" "[I" ∈ im_ws := im_m 398 (by decide +kernel) rfl
theorem wf6_98 : Cond.fieldLink qR6 98 "InsertMarksModel" "now" "I" ∈ im_ws := im_m 399 (by decide +kernel) rfl
theorem wf6_65 : Cond.fieldLink qR6 65 "InsertMarksModel" "next" "[I" ∈ im_ws := im_m 400 (by decide +kernel) rfl
theorem wf6_68 : Cond.fieldLink qR6 68 "InsertMarksModel" "stops" "[Z" ∈ im_ws := im_m 401 (by decide +kernel) rfl
theorem wm7_25 : Cond.methodLink "InsertMarksLaw" 25 yX6_cls ∈ im_ws := im_m 459 (by decide +kernel) rfl
theorem wm6_78 : Cond.methodLink qR6 78 yX6_in ∈ im_ws := im_m 463 (by decide +kernel) rfl
theorem wm7_30 : Cond.methodLink "InsertMarksLaw" 30 yX6_insert ∈ im_ws := im_m 466 (by decide +kernel) rfl
theorem wm6_82 : Cond.methodLink qR6 82 yX6_isClass ∈ im_ws := im_m 470 (by decide +kernel) rfl
theorem wm7_34 : Cond.methodLink "InsertMarksLaw" 34 yX6_mark ∈ im_ws := im_m 474 (by decide +kernel) rfl
theorem wm7_39 : Cond.methodLink "InsertMarksLaw" 39 yX6_close ∈ im_ws := im_m 478 (by decide +kernel) rfl
theorem wm6_112 : Cond.methodLink qR6 112 yX6_waits ∈ im_ws := im_m 482 (by decide +kernel) rfl
theorem wm6_115 : Cond.methodLink qR6 115 yX6_go ∈ im_ws := im_m 486 (by decide +kernel) rfl
theorem wm6_101 : Cond.methodLink qR6 101 yX6_standing ∈ im_ws := im_m 490 (by decide +kernel) rfl
theorem wm6_105 : Cond.methodLink qR6 105 yX6_place ∈ im_ws := im_m 494 (by decide +kernel) rfl
theorem wm6_119 : Cond.methodLink qR6 119 yX6_isIn ∈ im_ws := im_m 498 (by decide +kernel) rfl
theorem wm7_43 : Cond.methodLink "InsertMarksLaw" 43 yX6_flush ∈ im_ws := im_m 502 (by decide +kernel) rfl
theorem wm6_123 : Cond.methodLink qR6 123 yX6_heldAt ∈ im_ws := im_m 506 (by decide +kernel) rfl
theorem wm6_127 : Cond.methodLink qR6 127 yX6_close ∈ im_ws := im_m 510 (by decide +kernel) rfl
theorem wm7_48 : Cond.methodLink "InsertMarksLaw" 48 yX6_cancel ∈ im_ws := im_m 511 (by decide +kernel) rfl
theorem wm7_52 : Cond.methodLink "InsertMarksLaw" 52 yX6_placed ∈ im_ws := im_m 515 (by decide +kernel) rfl
theorem wm6_131 : Cond.methodLink qR6 131 yX6_partAt ∈ im_ws := im_m 519 (by decide +kernel) rfl
theorem wm7_57 : Cond.methodLink "InsertMarksLaw" 57 yX6_about ∈ im_ws := im_m 523 (by decide +kernel) rfl
theorem wm7_61 : Cond.methodLink "InsertMarksLaw" 61 yX6_held ∈ im_ws := im_m 527 (by decide +kernel) rfl
theorem wm7_65 : Cond.methodLink "InsertMarksLaw" 65 yX6_used ∈ im_ws := im_m 531 (by decide +kernel) rfl
theorem wm7_69 : Cond.methodLink "InsertMarksLaw" 69 yX6_seen ∈ im_ws := im_m 535 (by decide +kernel) rfl
theorem wm6_134 : Cond.methodLink qR6 134 yX6_markOn ∈ im_ws := im_m 539 (by decide +kernel) rfl
theorem wm6_138 : Cond.methodLink qR6 138 yX6_lastBefore ∈ im_ws := im_m 543 (by decide +kernel) rfl
theorem wm7_73 : Cond.methodLink "InsertMarksLaw" 73 yX6_count ∈ im_ws := im_m 547 (by decide +kernel) rfl
theorem wt_max : Cond.static Lib.Math.max.name ∈ im_ws := im_m 63 (by decide +kernel) rfl
theorem wc_max : Cond.code Lib.Math.max.name Lib.Math.max.code 2 (some .int) ∈ im_ws := im_m 64 (by decide +kernel) rfl
theorem wt_min : Cond.static Lib.Math.min.name ∈ im_ws := im_m 60 (by decide +kernel) rfl
theorem wc_min : Cond.code Lib.Math.min.name Lib.Math.min.code 2 (some .int) ∈ im_ws := im_m 61 (by decide +kernel) rfl
theorem wi_oi : Cond.instanceMethod objectInit ∈ im_ws := im_m 35 (by decide +kernel) rfl
theorem wc_oi : Cond.code objectInit ⟨#[0xb1]⟩ 1 none ∈ im_ws := im_m 36 (by decide +kernel) rfl
theorem qL0 : ∀ w ∈ u_ws qR0 qT0 8, w ∈ im_ws := by
  intro w hw
  obtain ⟨j, hj, rfl⟩ := List.mem_map.mp hw
  have hj := List.mem_range.mp hj
  match j, hj with
  | 0, _ => exact im_m 175 (by decide +kernel) rfl
  | 1, _ => exact im_m 177 (by decide +kernel) rfl
  | 2, _ => exact im_m 179 (by decide +kernel) rfl
  | 3, _ => exact im_m 181 (by decide +kernel) rfl
  | 4, _ => exact im_m 183 (by decide +kernel) rfl
  | 5, _ => exact im_m 185 (by decide +kernel) rfl
  | 6, _ => exact im_m 187 (by decide +kernel) rfl
  | 7, _ => exact im_m 189 (by decide +kernel) rfl
  | j + 8, h => exact absurd h (by omega)
theorem qL1 : ∀ w ∈ u_ws qR1 qT1 9, w ∈ im_ws := by
  intro w hw
  obtain ⟨j, hj, rfl⟩ := List.mem_map.mp hw
  have hj := List.mem_range.mp hj
  match j, hj with
  | 0, _ => exact im_m 118 (by decide +kernel) rfl
  | 1, _ => exact im_m 120 (by decide +kernel) rfl
  | 2, _ => exact im_m 122 (by decide +kernel) rfl
  | 3, _ => exact im_m 124 (by decide +kernel) rfl
  | 4, _ => exact im_m 126 (by decide +kernel) rfl
  | 5, _ => exact im_m 128 (by decide +kernel) rfl
  | 6, _ => exact im_m 130 (by decide +kernel) rfl
  | 7, _ => exact im_m 132 (by decide +kernel) rfl
  | 8, _ => exact im_m 134 (by decide +kernel) rfl
  | j + 9, h => exact absurd h (by omega)
theorem qL2 : ∀ w ∈ u_ws qR2 qT2 2, w ∈ im_ws := by
  intro w hw
  obtain ⟨j, hj, rfl⟩ := List.mem_map.mp hw
  have hj := List.mem_range.mp hj
  match j, hj with
  | 0, _ => exact im_m 53 (by decide +kernel) rfl
  | 1, _ => exact im_m 55 (by decide +kernel) rfl
  | j + 2, h => exact absurd h (by omega)
theorem qL3 : ∀ w ∈ u_ws qR3 qT3 4, w ∈ im_ws := by
  intro w hw
  obtain ⟨j, hj, rfl⟩ := List.mem_map.mp hw
  have hj := List.mem_range.mp hj
  match j, hj with
  | 0, _ => exact im_m 243 (by decide +kernel) rfl
  | 1, _ => exact im_m 245 (by decide +kernel) rfl
  | 2, _ => exact im_m 247 (by decide +kernel) rfl
  | 3, _ => exact im_m 249 (by decide +kernel) rfl
  | j + 4, h => exact absurd h (by omega)
theorem qL4 : ∀ w ∈ u_ws qR4 qT4 3, w ∈ im_ws := by
  intro w hw
  obtain ⟨j, hj, rfl⟩ := List.mem_map.mp hw
  have hj := List.mem_range.mp hj
  match j, hj with
  | 0, _ => exact im_m 287 (by decide +kernel) rfl
  | 1, _ => exact im_m 289 (by decide +kernel) rfl
  | 2, _ => exact im_m 291 (by decide +kernel) rfl
  | j + 3, h => exact absurd h (by omega)
theorem qL5 : ∀ w ∈ u_ws qR5 qT5 9, w ∈ im_ws := by
  intro w hw
  obtain ⟨j, hj, rfl⟩ := List.mem_map.mp hw
  have hj := List.mem_range.mp hj
  match j, hj with
  | 0, _ => exact im_m 74 (by decide +kernel) rfl
  | 1, _ => exact im_m 76 (by decide +kernel) rfl
  | 2, _ => exact im_m 78 (by decide +kernel) rfl
  | 3, _ => exact im_m 80 (by decide +kernel) rfl
  | 4, _ => exact im_m 82 (by decide +kernel) rfl
  | 5, _ => exact im_m 84 (by decide +kernel) rfl
  | 6, _ => exact im_m 86 (by decide +kernel) rfl
  | 7, _ => exact im_m 88 (by decide +kernel) rfl
  | 8, _ => exact im_m 90 (by decide +kernel) rfl
  | j + 9, h => exact absurd h (by omega)
theorem qL6 : ∀ w ∈ u_ws qR6 qT6 28, w ∈ im_ws := by
  intro w hw
  obtain ⟨j, hj, rfl⟩ := List.mem_map.mp hw
  have hj := List.mem_range.mp hj
  match j, hj with
  | 0, _ => exact im_m 402 (by decide +kernel) rfl
  | 1, _ => exact im_m 404 (by decide +kernel) rfl
  | 2, _ => exact im_m 406 (by decide +kernel) rfl
  | 3, _ => exact im_m 408 (by decide +kernel) rfl
  | 4, _ => exact im_m 410 (by decide +kernel) rfl
  | 5, _ => exact im_m 412 (by decide +kernel) rfl
  | 6, _ => exact im_m 414 (by decide +kernel) rfl
  | 7, _ => exact im_m 416 (by decide +kernel) rfl
  | 8, _ => exact im_m 418 (by decide +kernel) rfl
  | 9, _ => exact im_m 420 (by decide +kernel) rfl
  | 10, _ => exact im_m 422 (by decide +kernel) rfl
  | 11, _ => exact im_m 424 (by decide +kernel) rfl
  | 12, _ => exact im_m 426 (by decide +kernel) rfl
  | 13, _ => exact im_m 428 (by decide +kernel) rfl
  | 14, _ => exact im_m 430 (by decide +kernel) rfl
  | 15, _ => exact im_m 432 (by decide +kernel) rfl
  | 16, _ => exact im_m 434 (by decide +kernel) rfl
  | 17, _ => exact im_m 436 (by decide +kernel) rfl
  | 18, _ => exact im_m 438 (by decide +kernel) rfl
  | 19, _ => exact im_m 440 (by decide +kernel) rfl
  | 20, _ => exact im_m 442 (by decide +kernel) rfl
  | 21, _ => exact im_m 444 (by decide +kernel) rfl
  | 22, _ => exact im_m 446 (by decide +kernel) rfl
  | 23, _ => exact im_m 448 (by decide +kernel) rfl
  | 24, _ => exact im_m 450 (by decide +kernel) rfl
  | 25, _ => exact im_m 452 (by decide +kernel) rfl
  | 26, _ => exact im_m 454 (by decide +kernel) rfl
  | 27, _ => exact im_m 456 (by decide +kernel) rfl
  | j + 28, h => exact absurd h (by omega)
theorem wq5_29 : Cond.methodLinkNest qR5 29 yX2_init qR5 ∈ lw_tbl := List.mem_of_getElem? (i := 45) (by decide +kernel)
theorem wq3_50 : Cond.methodLinkNest qR3 50 yX5_isWithin qR5 ∈ lw_tbl := List.mem_of_getElem? (i := 326) (by decide +kernel)
theorem wq2_19 : Cond.methodLinkNest qR2 19 yX5_isWithin qR5 ∈ lw_tbl := List.mem_of_getElem? (i := 339) (by decide +kernel)
theorem wo1 : Cond.arrayOver (.object qR1) ∈ lw_tbl := List.mem_of_getElem? (i := 38) (by decide +kernel)
theorem wo0 : Cond.arrayOver (.object qR0) ∈ lw_tbl := List.mem_of_getElem? (i := 40) (by decide +kernel)
theorem wo3 : Cond.arrayOver (.object qR3) ∈ lw_tbl := List.mem_of_getElem? (i := 42) (by decide +kernel)
theorem wo4 : Cond.arrayOver (.object qR4) ∈ lw_tbl := List.mem_of_getElem? (i := 235) (by decide +kernel)
end
