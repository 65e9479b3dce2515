section
/-! NAMED HEAPS: every cell that a system has bears a name (a kind and two numbers); S: which names there are, and what they are (0, number of its sort of object), or (t + 1, length) for an array of the t-th array type; g: their addresses; I: their ints; R: their references, by name. -/
abbrev nh_N : Type := Nat × Nat × Nat
abbrev nh_C : Type := Nat × Nat
def nu {α : Type} (f : nh_N → α) (n : nh_N) (v : α) : nh_N → α := fun m => if m = n then v else f m
theorem nu_s {α : Type} (f : nh_N → α) (n : nh_N) (v : α) : nu f n v n = v := by simp [nu]
theorem nu_n {α : Type} (f : nh_N → α) {n m : nh_N} (v : α) (h : m ≠ n) : nu f n v m = f m := by simp [nu, h]
def iu (I : nh_N → Nat → Int32) (n : nh_N) (k : Nat) (x : Int32) : nh_N → Nat → Int32 := nu I n (upd (I n) k x)
def ru (R : nh_N → Nat → Option nh_N) (n : nh_N) (k : Nat) (x : Option nh_N) : nh_N → Nat → Option nh_N := nu R n (va_up (R n) k x)
theorem iu_e (I : nh_N → Nat → Int32) (n : nh_N) (k : Nat) (x : Int32) (m : nh_N) (j : Nat) : iu I n k x m j = if m = n ∧ j = k then x else I m j := by
  by_cases h : m = n
  · subst h
    simp [iu, nu, upd]
  · simp [iu, nu, h]
theorem ru_e (R : nh_N → Nat → Option nh_N) (n : nh_N) (k : Nat) (x : Option nh_N) (m : nh_N) (j : Nat) : ru R n k x m j = if m = n ∧ j = k then x else R m j := by
  by_cases h : m = n
  · subst h
    simp [ru, nu, va_up]
  · simp [ru, nu, h]
def nh_v (g : nh_N → Nat) (i : Nat → Int32) (r : Nat → Option nh_N) (b : Bool) (k : Nat) : Value := if b = true then va_rf ((r k).map g) else .int (i k)
theorem nh_vi {g : nh_N → Nat} {i : Nat → Int32} {r : Nat → Option nh_N} {b : Bool} {k : Nat} (hb : b = false) : nh_v g i r b k = .int (i k) := by simp [nh_v, hb]
theorem nh_vr {g : nh_N → Nat} {i : Nat → Int32} {r : Nat → Option nh_N} {b : Bool} {k : Nat} {m : nh_N} (hb : b = true) (hr : r k = some m) : nh_v g i r b k = .ref (g m) := by simp [nh_v, hb, hr, va_rf]
theorem nh_vn {g : nh_N → Nat} {i : Nat → Int32} {r : Nat → Option nh_N} {b : Bool} {k : Nat} (hb : b = true) (hr : r k = none) : nh_v g i r b k = .null := by simp [nh_v, hb, hr, va_rf]
def nh_at (D : va_G) (cl : List vw_C) (sk : Nat → Nat → Bool) (cA : Nat → ClassId) (g : nh_N → Nat) (i : Nat → Int32) (r : Nat → Option nh_N) (c : nh_C) (a : Nat) (H : Heap) : Prop := match c with
  | (0, ci) => ∃ q : vw_C, cl[ci]? = some q ∧ t_OB a (D.1 ci) q.2.2 (D.2 ci) H (fun k => nh_v g i r (sk ci k) k)
  | (1, n) => H[a]? = some (arrV (cA 0) n (fun j => .int (i j)))
  | (2, n) => H[a]? = some (arrV (cA 1) n (fun j => .int (i j)))
  | (t + 3, n) => H[a]? = some (arrV (cA (t + 2)) n (fun j => va_rf ((r j).map g)))
theorem nh_at.kept {D : va_G} {cl : List vw_C} {sk : Nat → Nat → Bool} {cA : Nat → ClassId} {g : nh_N → Nat} {i : Nat → Int32} {r : Nat → Option nh_N} {c : nh_C} {a : Nat} {H H1 : Heap} (h : nh_at D cl sk cA g i r c a H) (hq : H1[a]? = H[a]?) : nh_at D cl sk cA g i r c a H1 := by
  match c, h with
  | (0, ci), h =>
    obtain ⟨q, h1, h2⟩ := h
    exact ⟨q, h1, h2.kept hq⟩
  | (1, n), h => exact hq.trans h
  | (2, n), h => exact hq.trans h
  | (t + 3, n), h => exact hq.trans h
theorem nh_at.lt {D : va_G} {cl : List vw_C} {sk : Nat → Nat → Bool} {cA : Nat → ClassId} {g : nh_N → Nat} {i : Nat → Int32} {r : Nat → Option nh_N} {c : nh_C} {a : Nat} {H : Heap} (h : nh_at D cl sk cA g i r c a H) : a < H.size := by
  match c, h with
  | (0, ci), h =>
    obtain ⟨q, h1, cell, h2, -⟩ := h
    exact (Array.getElem?_eq_some_iff.mp h2).1
  | (1, n), h => exact (Array.getElem?_eq_some_iff.mp h).1
  | (2, n), h => exact (Array.getElem?_eq_some_iff.mp h).1
  | (t + 3, n), h => exact (Array.getElem?_eq_some_iff.mp h).1
theorem nh_map {g g' : nh_N → Nat} {x : Option nh_N} (h : ∀ m, x = some m → g' m = g m) : x.map g' = x.map g := by
  cases x with
  | none => rfl
  | some m => simp [h m rfl]
theorem nh_at.moved {D : va_G} {cl : List vw_C} {sk : Nat → Nat → Bool} {cA : Nat → ClassId} {g g' : nh_N → Nat} {i : Nat → Int32} {r : Nat → Option nh_N} {c : nh_C} {a : Nat} {H : Heap} (h : nh_at D cl sk cA g i r c a H) (hg : ∀ k m, r k = some m → g' m = g m) : nh_at D cl sk cA g' i r c a H := by
  have hm : ∀ k, (r k).map g' = (r k).map g := fun k => nh_map (hg k)
  match c, h with
  | (0, ci), h =>
    obtain ⟨q, h1, h2⟩ := h
    exact ⟨q, h1, h2.to (fun k _ => by simp [nh_v, hm])⟩
  | (1, n), h => exact h
  | (2, n), h => exact h
  | (t + 3, n), h =>
    show H[a]? = some (arrV (cA (t + 2)) n (fun j => va_rf ((r j).map g')))
    simp only [hm]
    exact h
/-- the heap holds the named cells, at different addresses; every reference is to a cell that is there; what is outside A is as it was -/
def nh_P (D : va_G) (cl : List vw_C) (sk : Nat → Nat → Bool) (cA : Nat → ClassId) (S : nh_N → Option nh_C) (g : nh_N → Nat) (I : nh_N → Nat → Int32) (R : nh_N → Nat → Option nh_N) (H : Heap) : Prop :=
  (∀ n c, S n = some c → nh_at D cl sk cA g (I n) (R n) c (g n) H) ∧ (∀ n n' c c', S n = some c → S n' = some c' → g n = g n' → n = n') ∧ ∀ n c k m, S n = some c → R n k = some m → ∃ c', S m = some c'
def nh_S (D : va_G) (cl : List vw_C) (sk : Nat → Nat → Bool) (cA : Nat → ClassId) (A : Nat → Prop) (H0 : Heap) (S : nh_N → Option nh_C) (g : nh_N → Nat) (I : nh_N → Nat → Int32) (R : nh_N → Nat → Option nh_N) (H : Heap) (locs : List Loc) : Prop :=
  nh_P D cl sk cA S g I R H ∧ (∀ n c, S n = some c → A (g n)) ∧ va_S A H0 H locs ∧ ∀ q, H0.size ≤ q → A q
theorem nh_S.set {D : va_G} {cl : List vw_C} {sk : Nat → Nat → Bool} {cA : Nat → ClassId} {A : Nat → Prop} {H0 H H1 : Heap} {S : nh_N → Option nh_C} {g : nh_N → Nat} {I : nh_N → Nat → Int32} {R : nh_N → Nat → Option nh_N} {locs : List Loc} {n : nh_N} {c : nh_C} {k : Nat} {i : Nat → Int32} {r : Nat → Option nh_N}
    (h : nh_S D cl sk cA A H0 S g I R H locs) (hn : S n = some c) (hr : ∀ j m, r j = some m → ∃ c', S m = some c') (z : H1.size = H.size) (oq : ∀ q : Nat, q ≠ g n → H1[q]? = H[q]?) (hat : nh_at D cl sk cA g i r c (g n) H1) : nh_S D cl sk cA A H0 S g (nu I n i) (nu R n r) H1 (locs ++ [⟨g n, k⟩]) := by
  obtain ⟨⟨h1, h2, h3⟩, h4, h5, h6⟩ := h
  refine ⟨⟨fun m d hm => ?_, h2, fun m d j q hm hq => ?_⟩, h4, h5.put z oq (h4 n c hn), h6⟩
  · by_cases e : m = n
    · subst e
      rw [nu_s, nu_s]
      cases hn.symm.trans hm
      exact hat
    · rw [nu_n _ _ e, nu_n _ _ e]
      exact (h1 m d hm).kept (oq (g m) (fun q => e (h2 m n d c hm hn q)))
  · by_cases e : m = n
    · subst e
      rw [nu_s] at hq
      exact hr j q hq
    · rw [nu_n _ _ e] at hq
      exact h3 m d j q hm hq
theorem nh_S.new {D : va_G} {cl : List vw_C} {sk : Nat → Nat → Bool} {cA : Nat → ClassId} {A : Nat → Prop} {H0 H H1 : Heap} {S : nh_N → Option nh_C} {g : nh_N → Nat} {I : nh_N → Nat → Int32} {R : nh_N → Nat → Option nh_N} {locs : List Loc} (n : nh_N) {c : nh_C}
    (h : nh_S D cl sk cA A H0 S g I R H locs) (hn : S n = none) (z : H1.size = H.size + 1) (oq : ∀ q : Nat, q < H.size → H1[q]? = H[q]?) (hat : ∀ g', nh_at D cl sk cA g' (fun _ => 0) (fun _ => none) c H.size H1) : nh_S D cl sk cA A H0 (nu S n (some c)) (nu g n H.size) (nu I n (fun _ => 0)) (nu R n (fun _ => none)) H1 locs := by
  obtain ⟨⟨h1, h2, h3⟩, h4, h5, h6⟩ := h
  have hne : ∀ m d, S m = some d → m ≠ n := fun m d hm q => by rw [q, hn] at hm; cases hm
  refine ⟨⟨fun m d hm => ?_, fun m m' d d' hm hm' e => ?_, fun m d j q hm hq => ?_⟩, fun m d hm => ?_, ⟨Nat.le_trans h5.1 (by omega), fun q g1 g2 => (oq q (Nat.lt_of_lt_of_le g1 h5.1)).trans (h5.2.1 q g1 g2), h5.2.2⟩, h6⟩
  · by_cases e : m = n
    · subst e
      rw [nu_s] at hm
      cases hm
      rw [nu_s, nu_s, nu_s]
      exact hat _
    · rw [nu_n _ _ e] at hm
      rw [nu_n _ _ e, nu_n _ _ e, nu_n _ _ e]
      have hm1 := h1 m d hm
      exact (hm1.kept (oq _ hm1.lt)).moved (fun k q hq => by
        obtain ⟨c', hc'⟩ := h3 m d k q hm hq
        exact nu_n _ _ (hne q c' hc'))
  · by_cases e1 : m = n
    · by_cases e2 : m' = n
      · rw [e1, e2]
      · rw [nu_n _ _ e2] at hm'
        subst e1
        rw [nu_s, nu_n _ _ e2] at e
        have := (h1 m' d' hm').lt
        omega
    · rw [nu_n _ _ e1] at hm
      by_cases e2 : m' = n
      · subst e2
        rw [nu_s, nu_n _ _ e1] at e
        have := (h1 m d hm).lt
        omega
      · rw [nu_n _ _ e2] at hm'
        rw [nu_n _ _ e1, nu_n _ _ e2] at e
        exact h2 m m' d d' hm hm' e
  · by_cases e : m = n
    · subst e
      rw [nu_s] at hq
      cases hq
    · rw [nu_n _ _ e] at hm hq
      obtain ⟨c', hc'⟩ := h3 m d j q hm hq
      exact ⟨c', by rw [nu_n _ _ (hne q c' hc')]; exact hc'⟩
  · by_cases e : m = n
    · subst e
      rw [nu_s]
      exact h6 _ h5.1
    · rw [nu_n _ _ e] at hm
      rw [nu_n _ _ e]
      exact h4 m d hm
def nh_A (S : nh_N → Option nh_C) (g : nh_N → Nat) (sz : Nat) : Nat → Prop := fun q => (∃ n c, S n = some c ∧ g n = q) ∨ sz ≤ q
section NHR
variable {p : Program} {l : Launch} {e : Env} {Rm : Room} {s : State} {m : MethodId} {args : Array Value} {below : List Frame} {meth : Method} {c : Code} {H : Heap} {locs : List Loc} {cells slots : Nat} {Q : State → Prop}
variable {cc : ByteArray} {pc : Nat} {ls : Array Slot} {rest : List Value} {D : va_G} {cl : List vw_C} {sk : Nat → Nat → Bool} {cA : Nat → ClassId} {A : Nat → Prop} {a : Nat} {tys : List (ClassId × FieldType)} {S : nh_N → Option nh_C} {g : nh_N → Nat} {I : nh_N → Nat → Int32} {R : nh_N → Nat → Option nh_N} {H0 : Heap} {n : nh_N}
theorem nm_get (hexec : p.tables.exec = Jvm.exec) (hb : c.code = cc) {own ref C : String} {T : u_T} {N ci index : Nat} {Ts : List Cond} (hts : ∀ w ∈ Ts, w.before args s = true) (hin : ∀ w ∈ u_ws C T N, w ∈ Ts) (hown : s.vm.findClass own = some m.cls) (hK : va_K D cl tys s) (hw : nh_S D cl sk cA A H0 S g I R H locs) (hn : S n = some (0, ci)) (ha : g n = a) (hc : cl[ci]? = some (C, T, N)) (k : Nat) (hk : k < N) (hlink : (Cond.fieldLink own index ref (T k).2.1 (T k).2.2.1).before args s = true) (hsame : ∀ x, s.fieldFound? (T k).1 (T k).2.1 (T k).2.2.1 = some x → s.fieldFound? ref (T k).2.1 (T k).2.2.1 = some x) {v : Value} (hv : nh_v g (I n) (R n) (sk ci k) k = v) (hdg : decode cc pc = .ok (.getfield index, 3))
    (kk : W p l e Rm s m args below meth c H locs cells slots Q (F0 m (pc + 3) ls (v :: rest))) : W p l e Rm s m args below meth c H locs cells slots Q (F0 m pc ls (.ref a :: rest)) := by
  subst ha
  obtain ⟨r, h1, cell, q1, q2, q3, q4⟩ := hw.1.1 n _ hn
  have hr : r = (C, T, N) := Option.some.inj (h1.symm.trans hc)
  subst hr
  obtain ⟨hS, hfc, kC, hkC, hkind⟩ := hK.1 ci _ hc
  obtain ⟨cf, kf, fi, f, hi, hsl⟩ := hS k hk
  refine W.getf hexec hb hown hlink (hsame _ hi) (u_facts hfc hkC (u_lays hts hin hk) hi).1 q1 (by rw [q3]; exact fun h => by cases h) (v := v) ?_ rfl rfl hdg kk
  rw [hsl, q4 k hk, ← hv]
theorem nm_apart {own C : String} {T : u_T} {N ci : Nat} {Ts : List Cond} (hts : ∀ w ∈ Ts, w.before args s = true) (hin : ∀ w ∈ u_ws C T N, w ∈ Ts) (ty : Nat → FieldType) (hty : ∀ k, k < N → parseFieldDescriptor (T k).2.2.1 = some (ty k)) (hnm : ∀ a, a < N → ∀ b, b < N → a ≠ b → (T a).2.1 ≠ (T b).2.1) (hK : va_K D cl tys s) (hc : cl[ci]? = some (C, T, N)) : ∀ x y, x < N → y < N → x ≠ y → (D.2 ci) x ≠ (D.2 ci) y := va_apart (own := own) hts hin ty hty hnm hK hc
theorem nm_up {g : nh_N → Nat} {i : Nat → Int32} {r : Nat → Option nh_N} {b : Nat → Bool} {k : Nat} {x : Int32} (hb : b k = false) (j : Nat) : updV (fun k => nh_v g i r (b k) k) k (.int x) j = nh_v g (upd i k x) r (b j) j := by
  by_cases h : j = k
  · subst h
    simp [updV, upd, nh_v, hb]
  · simp [updV, upd, nh_v, h]
theorem nm_upr {g : nh_N → Nat} {i : Nat → Int32} {r : Nat → Option nh_N} {b : Nat → Bool} {k : Nat} {x : Option nh_N} (hb : b k = true) (j : Nat) : updV (fun k => nh_v g i r (b k) k) k (va_rf (x.map g)) j = nh_v g i (va_up r k x) (b j) j := by
  by_cases h : j = k
  · subst h
    simp [updV, va_up, nh_v, hb]
  · simp [updV, va_up, nh_v, h]
theorem nm_self {α : Type} (f : nh_N → α) (n : nh_N) : nu f n (f n) = f := by
  funext q
  by_cases h : q = n
  · subst h; simp [nu]
  · simp [nu, h]
/-- an int into a field that is not final -/
theorem nm_put (hexec : p.tables.exec = Jvm.exec) (hb : c.code = cc) {own ref C : String} {T : u_T} {N ci index : Nat} {Ts : List Cond} (hts : ∀ w ∈ Ts, w.before args s = true) (hin : ∀ w ∈ u_ws C T N, w ∈ Ts) (ty0 : Nat → FieldType) (hty : ∀ k, k < N → parseFieldDescriptor (T k).2.2.1 = some (ty0 k)) (hnm : ∀ a, a < N → ∀ b, b < N → a ≠ b → (T a).2.1 ≠ (T b).2.1) (hown : s.vm.findClass own = some m.cls) (hK : va_K D cl tys s) (hw : nh_S D cl sk cA A H0 S g I R H locs) (hn : S n = some (0, ci)) (ha : g n = a) (hc : cl[ci]? = some (C, T, N)) (k : Nat) (hk : k < N) (hlink : (Cond.fieldLink own index ref (T k).2.1 (T k).2.2.1).before args s = true) (hsame : ∀ x, s.fieldFound? (T k).1 (T k).2.1 (T k).2.2.1 = some x → s.fieldFound? ref (T k).2.1 (T k).2.2.1 = some x) (hfin : (T k).2.2.2 = false) {ty : FieldType} {x : Int32} (hd : parseFieldDescriptor (T k).2.2.1 = some ty) (hnr : narrow ty (.int x) = .int x) (hfit : fits ty (.int x) = true) (hsk : sk ci k = false)
    (hdg : decode cc pc = .ok (.putfield index, 3)) (kk : ∀ (H1 : Heap) (locs1 : List Loc), nh_S D cl sk cA A H0 S g (iu I n k x) R H1 locs1 → W p l e Rm s m args below meth c H1 locs1 cells slots Q (F0 m (pc + 3) ls rest)) : W p l e Rm s m args below meth c H locs cells slots Q (F0 m pc ls (.int x :: .ref a :: rest)) := by
  subst ha
  have hap := nm_apart (own := own) hts hin ty0 hty hnm hK hc
  obtain ⟨r, h1, cell, q1, q2, q3, q4⟩ := hw.1.1 n _ hn
  have hr : r = (C, T, N) := Option.some.inj (h1.symm.trans hc)
  subst hr
  obtain ⟨hS, hfc, kC, hkC, hkind⟩ := hK.1 ci _ hc
  obtain ⟨cf, kf, fi, f, hi, hsl⟩ := hS k hk
  have hlay := hts _ (hin _ (u_in_lay hk))
  unfold u_lay at hlay
  rw [if_neg (by rw [hfin]; decide)] at hlay
  have hst := (u_facts hfc hkC (u_lays hts hin hk) hi).1
  have h6 := u_store hfc hkC hkind hlay hi hd hnr hfit
  refine W.putK hexec hb (f := f) ⟨hown, hlink, ⟨_, _, _, hsame _ hi⟩, hst⟩ (by rw [q2]; exact h6) q1 q3 (by rw [hsl]; exact k2_hasslot (q4 k hk)) rfl rfl hdg fun H' e1 e2 e3 => ?_
  rw [hsl] at e1 ⊢
  have h9 := hw.set (k := D.2 ci k) (i := upd (I n) k x) (r := R n) hn (fun j q hq => hw.1.2.2 n _ j q hn hq) e2 e3 ⟨_, hc, t_OB.to (V := updV (fun k => nh_v g (I n) (R n) (sk ci k) k) k (.int x)) ⟨_, e1, q2, q3, t_set q4 hap hk _⟩ (fun j _ => nm_up (b := sk ci) hsk j)⟩
  rw [nm_self] at h9
  exact kk H' _ h9
/-- a reference, by name, into a field that is not final -/
theorem nm_putR (hexec : p.tables.exec = Jvm.exec) (hb : c.code = cc) {own ref C : String} {T : u_T} {N ci index : Nat} {Ts : List Cond} (hts : ∀ w ∈ Ts, w.before args s = true) (hin : ∀ w ∈ u_ws C T N, w ∈ Ts) (ty0 : Nat → FieldType) (hty : ∀ k, k < N → parseFieldDescriptor (T k).2.2.1 = some (ty0 k)) (hnm : ∀ a, a < N → ∀ b, b < N → a ≠ b → (T a).2.1 ≠ (T b).2.1) (hown : s.vm.findClass own = some m.cls) (hK : va_K D cl tys s) (hw : nh_S D cl sk cA A H0 S g I R H locs) (hn : S n = some (0, ci)) (ha : g n = a) (hc : cl[ci]? = some (C, T, N)) (k : Nat) (hk : k < N) (hlink : (Cond.fieldLink own index ref (T k).2.1 (T k).2.2.1).before args s = true) (hsame : ∀ x, s.fieldFound? (T k).1 (T k).2.1 (T k).2.2.1 = some x → s.fieldFound? ref (T k).2.1 (T k).2.2.1 = some x) (hfin : (T k).2.2.2 = false) {ty : FieldType} {v : Value} (q : Option nh_N) (hq : ∀ m, q = some m → ∃ c', S m = some c') (hv : va_rf (q.map g) = v) (hd : parseFieldDescriptor (T k).2.2.1 = some ty) (hnr : narrow ty v = v) (hfit : fits ty v = true) (hsk : sk ci k = true)
    (hdg : decode cc pc = .ok (.putfield index, 3)) (kk : ∀ (H1 : Heap) (locs1 : List Loc), nh_S D cl sk cA A H0 S g I (ru R n k q) H1 locs1 → W p l e Rm s m args below meth c H1 locs1 cells slots Q (F0 m (pc + 3) ls rest)) : W p l e Rm s m args below meth c H locs cells slots Q (F0 m pc ls (v :: .ref a :: rest)) := by
  subst ha
  subst hv
  have hap := nm_apart (own := own) hts hin ty0 hty hnm hK hc
  obtain ⟨r, h1, cell, q1, q2, q3, q4⟩ := hw.1.1 n _ hn
  have hr : r = (C, T, N) := Option.some.inj (h1.symm.trans hc)
  subst hr
  obtain ⟨hS, hfc, kC, hkC, hkind⟩ := hK.1 ci _ hc
  obtain ⟨cf, kf, fi, f, hi, hsl⟩ := hS k hk
  have hlay := hts _ (hin _ (u_in_lay hk))
  unfold u_lay at hlay
  rw [if_neg (by rw [hfin]; decide)] at hlay
  have hst := (u_facts hfc hkC (u_lays hts hin hk) hi).1
  have h6 := u_store hfc hkC hkind hlay hi hd hnr hfit
  refine W.putK hexec hb (f := f) ⟨hown, hlink, ⟨_, _, _, hsame _ hi⟩, hst⟩ (by rw [q2]; exact h6) q1 q3 (by rw [hsl]; exact k2_hasslot (q4 k hk)) rfl rfl hdg fun H' e1 e2 e3 => ?_
  rw [hsl] at e1 ⊢
  have h9 := hw.set (k := D.2 ci k) (i := I n) (r := va_up (R n) k q) hn (fun j x hx => by
    by_cases h : j = k
    · subst h; rw [va_up_self] at hx; exact hq x hx
    · rw [va_up_ne _ _ h] at hx; exact hw.1.2.2 n _ j x hn hx) e2 e3 ⟨_, hc, t_OB.to (V := updV (fun k => nh_v g (I n) (R n) (sk ci k) k) k (va_rf (q.map g))) ⟨_, e1, q2, q3, t_set q4 hap hk _⟩ (fun j _ => nm_upr (b := sk ci) hsk j)⟩
  rw [nm_self] at h9
  exact kk H' _ h9
/-- an int into a final field, in the constructor -/
theorem nm_putF (hexec : p.tables.exec = Jvm.exec) (hb : c.code = cc) {own ref C : String} {T : u_T} {N ci index : Nat} {Ts : List Cond} (hts : ∀ w ∈ Ts, w.before args s = true) (hin : ∀ w ∈ u_ws C T N, w ∈ Ts) (ty0 : Nat → FieldType) (hty : ∀ k, k < N → parseFieldDescriptor (T k).2.2.1 = some (ty0 k)) (hnm : ∀ a, a < N → ∀ b, b < N → a ≠ b → (T a).2.1 ≠ (T b).2.1) (hown : s.vm.findClass own = some m.cls) (hK : va_K D cl tys s) (hw : nh_S D cl sk cA A H0 S g I R H locs) (hn : S n = some (0, ci)) (ha : g n = a) (hc : cl[ci]? = some (C, T, N)) (k : Nat) (hk : k < N) (hlink : (Cond.fieldLink own index ref (T k).2.1 (T k).2.2.1).before args s = true) (hsame : ∀ x, s.fieldFound? (T k).1 (T k).2.1 (T k).2.2.1 = some x → s.fieldFound? ref (T k).2.1 (T k).2.2.1 = some x) (hfin : (T k).2.2.2 = true) (hin2 : meth.name = "<init>") (hdecl : (T k).1 = own) {ty : FieldType} {x : Int32} (hd : parseFieldDescriptor (T k).2.2.1 = some ty) (hnr : narrow ty (.int x) = .int x) (hfit : fits ty (.int x) = true) (hsk : sk ci k = false)
    (hdg : decode cc pc = .ok (.putfield index, 3)) (kk : ∀ (H1 : Heap) (locs1 : List Loc), nh_S D cl sk cA A H0 S g (iu I n k x) R H1 locs1 → W p l e Rm s m args below meth c H1 locs1 cells slots Q (F0 m (pc + 3) ls rest)) : W p l e Rm s m args below meth c H locs cells slots Q (F0 m pc ls (.int x :: .ref a :: rest)) := by
  subst ha
  have hap := nm_apart (own := own) hts hin ty0 hty hnm hK hc
  obtain ⟨r, h1, cell, q1, q2, q3, q4⟩ := hw.1.1 n _ hn
  have hr : r = (C, T, N) := Option.some.inj (h1.symm.trans hc)
  subst hr
  obtain ⟨hS, hfc, kC, hkC, hkind⟩ := hK.1 ci _ hc
  obtain ⟨cf, kf, fi, f, hi, hsl⟩ := hS k hk
  have hlay := hts _ (hin _ (u_in_lay hk))
  unfold u_lay at hlay
  rw [if_pos hfin] at hlay
  have hst := (u_facts hfc hkC (u_lays hts hin hk) hi).1
  have hcf : m.cls = cf := by
    obtain ⟨_, _, c', _, _, _, -, -, hf', -, -, -, hown2, -⟩ := Cond.laysFinal_spec hlay
    have e1 : c' = cf := by have := hi.symm.trans hf'; simp at this; exact this.1.symm
    rw [hdecl] at hown2
    rw [← e1]; exact Option.some.inj (hown.symm.trans hown2)
  have h6 := u_fits hfc hkC hkind (Or.inr hlay) hi hd hnr hfit
  refine W.putFinK hexec hb hown hlink (hsame _ hi) hst hcf hin2 (by rw [q2]; exact h6) q1 q3 (by rw [hsl]; exact k2_hasslot (q4 k hk)) rfl rfl hdg fun H' e1 e2 e3 => ?_
  rw [hsl] at e1 ⊢
  have h9 := hw.set (k := D.2 ci k) (i := upd (I n) k x) (r := R n) hn (fun j q hq => hw.1.2.2 n _ j q hn hq) e2 e3 ⟨_, hc, t_OB.to (V := updV (fun k => nh_v g (I n) (R n) (sk ci k) k) k (.int x)) ⟨_, e1, q2, q3, t_set q4 hap hk _⟩ (fun j _ => nm_up (b := sk ci) hsk j)⟩
  rw [nm_self] at h9
  exact kk H' _ h9
theorem nm_putFR (hexec : p.tables.exec = Jvm.exec) (hb : c.code = cc) {own ref C : String} {T : u_T} {N ci index : Nat} {Ts : List Cond} (hts : ∀ w ∈ Ts, w.before args s = true) (hin : ∀ w ∈ u_ws C T N, w ∈ Ts) (ty0 : Nat → FieldType) (hty : ∀ k, k < N → parseFieldDescriptor (T k).2.2.1 = some (ty0 k)) (hnm : ∀ a, a < N → ∀ b, b < N → a ≠ b → (T a).2.1 ≠ (T b).2.1) (hown : s.vm.findClass own = some m.cls) (hK : va_K D cl tys s) (hw : nh_S D cl sk cA A H0 S g I R H locs) (hn : S n = some (0, ci)) (ha : g n = a) (hc : cl[ci]? = some (C, T, N)) (k : Nat) (hk : k < N) (hlink : (Cond.fieldLink own index ref (T k).2.1 (T k).2.2.1).before args s = true) (hsame : ∀ x, s.fieldFound? (T k).1 (T k).2.1 (T k).2.2.1 = some x → s.fieldFound? ref (T k).2.1 (T k).2.2.1 = some x) (hfin : (T k).2.2.2 = true) (hin2 : meth.name = "<init>") (hdecl : (T k).1 = own) {ty : FieldType} {v : Value} (q : Option nh_N) (hq : ∀ m, q = some m → ∃ c', S m = some c') (hv : va_rf (q.map g) = v) (hd : parseFieldDescriptor (T k).2.2.1 = some ty) (hnr : narrow ty v = v) (hfit : fits ty v = true) (hsk : sk ci k = true)
    (hdg : decode cc pc = .ok (.putfield index, 3)) (kk : ∀ (H1 : Heap) (locs1 : List Loc), nh_S D cl sk cA A H0 S g I (ru R n k q) H1 locs1 → W p l e Rm s m args below meth c H1 locs1 cells slots Q (F0 m (pc + 3) ls rest)) : W p l e Rm s m args below meth c H locs cells slots Q (F0 m pc ls (v :: .ref a :: rest)) := by
  subst ha
  subst hv
  have hap := nm_apart (own := own) hts hin ty0 hty hnm hK hc
  obtain ⟨r, h1, cell, q1, q2, q3, q4⟩ := hw.1.1 n _ hn
  have hr : r = (C, T, N) := Option.some.inj (h1.symm.trans hc)
  subst hr
  obtain ⟨hS, hfc, kC, hkC, hkind⟩ := hK.1 ci _ hc
  obtain ⟨cf, kf, fi, f, hi, hsl⟩ := hS k hk
  have hlay := hts _ (hin _ (u_in_lay hk))
  unfold u_lay at hlay
  rw [if_pos hfin] at hlay
  have hst := (u_facts hfc hkC (u_lays hts hin hk) hi).1
  have hcf : m.cls = cf := by
    obtain ⟨_, _, c', _, _, _, -, -, hf', -, -, -, hown2, -⟩ := Cond.laysFinal_spec hlay
    have e1 : c' = cf := by have := hi.symm.trans hf'; simp at this; exact this.1.symm
    rw [hdecl] at hown2
    rw [← e1]; exact Option.some.inj (hown.symm.trans hown2)
  have h6 := u_fits hfc hkC hkind (Or.inr hlay) hi hd hnr hfit
  refine W.putFinK hexec hb hown hlink (hsame _ hi) hst hcf hin2 (by rw [q2]; exact h6) q1 q3 (by rw [hsl]; exact k2_hasslot (q4 k hk)) rfl rfl hdg fun H' e1 e2 e3 => ?_
  rw [hsl] at e1 ⊢
  have h9 := hw.set (k := D.2 ci k) (i := I n) (r := va_up (R n) k q) hn (fun j x hx => by
    by_cases h : j = k
    · subst h; rw [va_up_self] at hx; exact hq x hx
    · rw [va_up_ne _ _ h] at hx; exact hw.1.2.2 n _ j x hn hx) e2 e3 ⟨_, hc, t_OB.to (V := updV (fun k => nh_v g (I n) (R n) (sk ci k) k) k (va_rf (q.map g))) ⟨_, e1, q2, q3, t_set q4 hap hk _⟩ (fun j _ => nm_upr (b := sk ci) hsk j)⟩
  rw [nm_self] at h9
  exact kk H' _ h9
theorem nm_iald (hexec : p.tables.exec = Jvm.exec) (hb : c.code = cc) (hK : va_K D cl tys s) (hw : nh_S D cl sk cA A H0 S g I R H locs) {N : Nat} (hn : S n = some (1, N)) (ha : g n = a) (ht : tys[0]? = some (cA 0, .int)) {i : Int32} (hin : vp_in i N) (hdg : decode cc pc = .ok (.iaload, 1))
    (kk : W p l e Rm s m args below meth c H locs cells slots Q (F0 m (pc + 1) ls (.int (I n i.toNatClampNeg) :: rest))) : W p l e Rm s m args below meth c H locs cells slots Q (F0 m pc ls (.int i :: .ref a :: rest)) := by
  subst ha
  have hlt : i.toNatClampNeg < N := Nat.not_le.mp fun q => hin (Or.inr q)
  exact W.iald (v := .int (I n i.toNatClampNeg)) hexec hb (hw.1.1 n _ hn) ((hK.2 0 _ ht).1 N (fun j => .int (I n j))) (fun q => by cases q) (by show ¬ (i < 0 ∨ (arrV _ _ _).slots.size ≤ _); rw [arrV_size]; exact hin) (by show (arrV _ _ _).slots[_]? = _; rw [arrV_read _ _ hlt]) rfl rfl hdg kk
theorem nm_zald (hexec : p.tables.exec = Jvm.exec) (hb : c.code = cc) (hK : va_K D cl tys s) (hw : nh_S D cl sk cA A H0 S g I R H locs) {N : Nat} (hn : S n = some (2, N)) (ha : g n = a) (ht : tys[1]? = some (cA 1, .boolean)) {i : Int32} (hin : vp_in i N) (hdg : decode cc pc = .ok (.baload, 1))
    (kk : W p l e Rm s m args below meth c H locs cells slots Q (F0 m (pc + 1) ls (.int (I n i.toNatClampNeg) :: rest))) : W p l e Rm s m args below meth c H locs cells slots Q (F0 m pc ls (.int i :: .ref a :: rest)) := by
  subst ha
  have hlt : i.toNatClampNeg < N := Nat.not_le.mp fun q => hin (Or.inr q)
  exact W.zald (v := .int (I n i.toNatClampNeg)) hexec hb (hw.1.1 n _ hn) ((hK.2 1 _ ht).1 N (fun j => .int (I n j))) (fun q => by cases q) (by show ¬ (i < 0 ∨ (arrV _ _ _).slots.size ≤ _); rw [arrV_size]; exact hin) (by show (arrV _ _ _).slots[_]? = _; rw [arrV_read _ _ hlt]) rfl rfl hdg kk
theorem nm_aald (hexec : p.tables.exec = Jvm.exec) (hb : c.code = cc) (hK : va_K D cl tys s) (hw : nh_S D cl sk cA A H0 S g I R H locs) {t N : Nat} {C : String} (hn : S n = some (t + 3, N)) (ha : g n = a) (ht : tys[t + 2]? = some (cA (t + 2), .object C)) {i : Int32} (hin : vp_in i N) {v : Value} (hv : va_rf ((R n i.toNatClampNeg).map g) = v) (hdg : decode cc pc = .ok (.aaload, 1))
    (kk : W p l e Rm s m args below meth c H locs cells slots Q (F0 m (pc + 1) ls (v :: rest))) : W p l e Rm s m args below meth c H locs cells slots Q (F0 m pc ls (.int i :: .ref a :: rest)) := by
  subst ha
  subst hv
  have hlt : i.toNatClampNeg < N := Nat.not_le.mp fun q => hin (Or.inr q)
  exact W.aald (v := va_rf ((R n i.toNatClampNeg).map g)) (ty := .object C) hexec hb (hw.1.1 n _ hn) ((hK.2 (t + 2) _ ht).1 N (fun j => va_rf ((R n j).map g))) rfl (fun q => by cases q) (by show ¬ (i < 0 ∨ (arrV _ _ _).slots.size ≤ _); rw [arrV_size]; exact hin) (by show (arrV _ _ _).slots[_]? = _; rw [arrV_read _ _ hlt]) rfl rfl hdg kk
theorem nm_alenI (hexec : p.tables.exec = Jvm.exec) (hb : c.code = cc) (hK : va_K D cl tys s) (hw : nh_S D cl sk cA A H0 S g I R H locs) {N : Nat} (hn : S n = some (1, N)) (ha : g n = a) (ht : tys[0]? = some (cA 0, .int)) {v : Int32} (hv : Int32.ofNat N = v) (hdg : decode cc pc = .ok (.arraylength, 1))
    (kk : W p l e Rm s m args below meth c H locs cells slots Q (F0 m (pc + 1) ls (.int v :: rest))) : W p l e Rm s m args below meth c H locs cells slots Q (F0 m pc ls (.ref a :: rest)) := by
  subst ha
  subst hv
  exact W.alen (n := Int32.ofNat N) hexec hb (hw.1.1 n _ hn) ((hK.2 0 _ ht).1 N (fun j => .int (I n j))) (by rw [arrV_size] <;> rfl) rfl rfl hdg kk
theorem nm_alenR (hexec : p.tables.exec = Jvm.exec) (hb : c.code = cc) (hK : va_K D cl tys s) (hw : nh_S D cl sk cA A H0 S g I R H locs) {t N : Nat} {ty : FieldType} (hn : S n = some (t + 3, N)) (ha : g n = a) (ht : tys[t + 2]? = some (cA (t + 2), ty)) {v : Int32} (hv : Int32.ofNat N = v) (hdg : decode cc pc = .ok (.arraylength, 1))
    (kk : W p l e Rm s m args below meth c H locs cells slots Q (F0 m (pc + 1) ls (.int v :: rest))) : W p l e Rm s m args below meth c H locs cells slots Q (F0 m pc ls (.ref a :: rest)) := by
  subst ha
  subst hv
  exact W.alen (n := Int32.ofNat N) hexec hb (hw.1.1 n _ hn) ((hK.2 (t + 2) _ ht).1 N (fun j => va_rf ((R n j).map g))) (by rw [arrV_size] <;> rfl) rfl rfl hdg kk
theorem nm_iast (hexec : p.tables.exec = Jvm.exec) (hb : c.code = cc) (hK : va_K D cl tys s) (hw : nh_S D cl sk cA A H0 S g I R H locs) {N : Nat} (hn : S n = some (1, N)) (ha : g n = a) (ht : tys[0]? = some (cA 0, .int)) {i x : Int32} (hin : vp_in i N) (hdg : decode cc pc = .ok (.iastore, 1))
    (kk : ∀ (H1 : Heap) (locs1 : List Loc), nh_S D cl sk cA A H0 S g (iu I n i.toNatClampNeg x) R H1 locs1 → W p l e Rm s m args below meth c H1 locs1 cells slots Q (F0 m (pc + 1) ls rest)) : W p l e Rm s m args below meth c H locs cells slots Q (F0 m pc ls (.int x :: .int i :: .ref a :: rest)) := by
  subst ha
  refine W.iast hexec hb (hw.1.1 n _ hn) ((hK.2 0 _ ht).1 N (fun j => .int (I n j))) (fun q => by cases q) (by show ¬ (i < 0 ∨ (arrV _ _ _).slots.size ≤ _); rw [arrV_size]; exact hin) rfl rfl hdg fun H1 e1 z oq => ?_
  have h9 := hw.set (k := i.toNatClampNeg) (i := upd (I n) i.toNatClampNeg x) (r := R n) hn (fun j q hq => hw.1.2.2 n _ j q hn hq) z oq (by
    show H1[g n]? = some (arrV _ _ _)
    rw [e1, arrV_store]
    congr 2
    funext q
    by_cases hq : q = i.toNatClampNeg
    · subst hq
      simp [updV, upd]
    · simp [updV, upd, hq])
  rw [nm_self] at h9
  exact kk H1 _ h9
theorem nm_zast (hexec : p.tables.exec = Jvm.exec) (hb : c.code = cc) (hK : va_K D cl tys s) (hw : nh_S D cl sk cA A H0 S g I R H locs) {N : Nat} (hn : S n = some (2, N)) (ha : g n = a) (ht : tys[1]? = some (cA 1, .boolean)) {i x : Int32} (hin : vp_in i N) (hx : narrow .boolean (.int x) = .int x) (hdg : decode cc pc = .ok (.bastore, 1))
    (kk : ∀ (H1 : Heap) (locs1 : List Loc), nh_S D cl sk cA A H0 S g (iu I n i.toNatClampNeg x) R H1 locs1 → W p l e Rm s m args below meth c H1 locs1 cells slots Q (F0 m (pc + 1) ls rest)) : W p l e Rm s m args below meth c H locs cells slots Q (F0 m pc ls (.int x :: .int i :: .ref a :: rest)) := by
  subst ha
  refine W.zast hexec hb (hw.1.1 n _ hn) ((hK.2 1 _ ht).1 N (fun j => .int (I n j))) (fun q => by cases q) (by show ¬ (i < 0 ∨ (arrV _ _ _).slots.size ≤ _); rw [arrV_size]; exact hin) rfl rfl hdg fun H1 e1 z oq => ?_
  have h9 := hw.set (k := i.toNatClampNeg) (i := upd (I n) i.toNatClampNeg x) (r := R n) hn (fun j q hq => hw.1.2.2 n _ j q hn hq) z oq (by
    show H1[g n]? = some (arrV _ _ _)
    rw [e1, hx, arrV_store]
    congr 2
    funext q
    by_cases hq : q = i.toNatClampNeg
    · subst hq
      simp [updV, upd]
    · simp [updV, upd, hq])
  rw [nm_self] at h9
  exact kk H1 _ h9
theorem nm_aast (hexec : p.tables.exec = Jvm.exec) (hb : c.code = cc) (hK : va_K D cl tys s) (hw : nh_S D cl sk cA A H0 S g I R H locs) {t N ci v : Nat} {r : vw_C} (hn : S n = some (t + 3, N)) (ha : g n = a) (ht : tys[t + 2]? = some (cA (t + 2), .object r.1)) (q : nh_N) (hq : S q = some (0, ci)) (hv : g q = v) (hc : cl[ci]? = some r) {i : Int32} (hin : vp_in i N) (hdg : decode cc pc = .ok (.aastore, 1))
    (kk : ∀ (H1 : Heap) (locs1 : List Loc), nh_S D cl sk cA A H0 S g I (ru R n i.toNatClampNeg (some q)) H1 locs1 → W p l e Rm s m args below meth c H1 locs1 cells slots Q (F0 m (pc + 1) ls rest)) : W p l e Rm s m args below meth c H locs cells slots Q (F0 m pc ls (.ref v :: .int i :: .ref a :: rest)) := by
  subst ha
  subst hv
  have hlt : i.toNatClampNeg < N := Nat.not_le.mp fun q => hin (Or.inr q)
  have h0 : ¬ i < 0 := fun q => hin (Or.inl q)
  obtain ⟨r', hr', cellV, g1, g2, g3, -⟩ := hw.1.1 q _ hq
  have hcls := (hK.1 ci r hc).2
  obtain ⟨kA, comp, k1, k2, k3, -⟩ := (hK.2 (t + 2) _ ht).2
  have hcomp : comp = D.1 ci := Option.some.inj (k3.symm.trans hcls.1)
  subst hcomp
  obtain ⟨kC, hkC, -⟩ := hcls.2
  refine W.aast hexec hb (hw.1.1 n _ hn) (fun q h => by cases h) (fun h => by cases h) k1 k2 rfl hkC ⟨h0, by show _ < (arrV _ _ _).slots.size; rw [arrV_size]; exact hlt⟩ g1 (fun q h => by rw [g3] at h; cases h) (by rw [g2]; exact hkC) (by rw [g2]; exact va_assign hcls) rfl rfl hdg fun H1 e1 z oq => ?_
  have h9 := hw.set (k := i.toNatClampNeg) (i := I n) (r := va_up (R n) i.toNatClampNeg (some q)) hn (fun j x hx => by
    by_cases h : j = i.toNatClampNeg
    · subst h
      rw [va_up_self] at hx
      cases hx
      exact ⟨_, hq⟩
    · rw [va_up_ne _ _ h] at hx; exact hw.1.2.2 n _ j x hn hx) z oq (by
    show H1[g n]? = some (arrV _ _ _)
    rw [e1, arrV_store]
    congr 2
    funext j
    by_cases hj : j = i.toNatClampNeg
    · subst hj
      simp [updV, va_up, va_rf]
    · simp [updV, va_up, hj])
  rw [nm_self] at h9
  exact kk H1 _ h9
theorem nm_new (n : nh_N) (hexec : p.tables.exec = Jvm.exec) (hb : c.code = cc) {own C : String} {T : u_T} {N ci index : Nat} {Ts : List Cond} (hts : ∀ w ∈ Ts, w.before args s = true) (hin : ∀ w ∈ u_ws C T N, w ∈ Ts) (ty : Nat → FieldType) (hty : ∀ k, k < N → parseFieldDescriptor (T k).2.2.1 = some (ty k)) (hown : s.vm.findClass own = some m.cls) (hcl : (Cond.classLink own index C).before args s = true) (hinst : (Cond.instantiable C N).before args s = true) (hini : (Cond.initialized C).before args s = true)
    (hK : va_K D cl tys s) (hw : nh_S D cl sk cA A H0 S g I R H locs) (hn : S n = none) (hc : cl[ci]? = some (C, T, N)) (hfs : ∀ j, j < N → defaultValue (ty j) = if sk ci j = true then .null else .int 0) (hcells : cells + 1 ≤ Rm.cells) (hslots : slots + N ≤ Rm.slots) (hdg : decode cc pc = .ok (.new index, 3))
    (kk : ∀ (q : Nat) (H1 : Heap), nh_S D cl sk cA A H0 (nu S n (some (0, ci))) (nu g n q) (nu I n (fun _ => 0)) (nu R n (fun _ => none)) H1 locs →
      W p l e Rm s m args below meth c H1 locs (cells + 1) (slots + N) Q (F0 m (pc + 3) ls (.ref q :: rest))) : W p l e Rm s m args below meth c H locs cells slots Q (F0 m pc ls rest) := by
  have hKn := hK.1 ci _ hc
  refine W.newcK hexec hb hown hcl hinst hini rfl hdg hcells hslots hKn.2.1 rfl fun H1 kC hkC e1 z1 o1 => ?_
  exact kk H.size H1 (hw.new n hn z1 o1 (fun g' => ⟨_, hc, (u_born ty hts hin hKn hkC e1 hty).to (fun j hj => by
    rw [hfs j hj]
    by_cases h : sk ci j = true <;> simp [nh_v, h, va_rf])⟩))
theorem nm_newI (n : nh_N) (hexec : p.tables.exec = Jvm.exec) (hb : c.code = cc) (harr : (Cond.arrayClass .int).before args s = true) (hK : va_K D cl tys s) (hw : nh_S D cl sk cA A H0 S g I R H locs) (hn : S n = none) (ht : tys[0]? = some (cA 0, .int))
    {x : Int32} {N' : Nat} (hx : ¬ x < 0) (hN : x.toNatClampNeg = N') (hbytes : N' * componentBytes .int ≤ 536870912) (hcells : cells + 1 ≤ Rm.cells) (hslots : slots + N' ≤ Rm.slots) {atype : ArrayType} (hat : newarray.typeOf atype = .int) (hdg : decode cc pc = .ok (.newarray atype, 2))
    (kk : ∀ (q : Nat) (H1 : Heap), nh_S D cl sk cA A H0 (nu S n (some (1, N'))) (nu g n q) (nu I n (fun _ => 0)) (nu R n (fun _ => none)) H1 locs →
      W p l e Rm s m args below meth c H1 locs (cells + 1) (slots + N') Q (F0 m (pc + 2) ls (.ref q :: rest))) : W p l e Rm s m args below meth c H locs cells slots Q (F0 m pc ls (.int x :: rest)) := by
  refine va_newaK (atype := atype) hexec hb (by rw [hat]; exact harr) rfl hdg rfl hx hN (by rw [hat]; exact hbytes) hcells hslots rfl fun H1 cA' e1 z1 o1 hAr hNm => ?_
  rw [hat] at e1 hNm
  have hcc : cA' = cA 0 := by
    have h2 : s.vm.findClass ("[" ++ (FieldType.int).toString) = some (cA 0) := (hK.2 0 _ ht).2
    exact Option.some.inj (hNm.symm.trans h2)
  subst hcc
  exact kk H.size H1 (hw.new n hn z1 o1 (fun g' => e1))
theorem nm_newZ (n : nh_N) (hexec : p.tables.exec = Jvm.exec) (hb : c.code = cc) (harr : (Cond.arrayClass .boolean).before args s = true) (hK : va_K D cl tys s) (hw : nh_S D cl sk cA A H0 S g I R H locs) (hn : S n = none) (ht : tys[1]? = some (cA 1, .boolean))
    {x : Int32} {N' : Nat} (hx : ¬ x < 0) (hN : x.toNatClampNeg = N') (hbytes : N' * componentBytes .boolean ≤ 536870912) (hcells : cells + 1 ≤ Rm.cells) (hslots : slots + N' ≤ Rm.slots) {atype : ArrayType} (hat : newarray.typeOf atype = .boolean) (hdg : decode cc pc = .ok (.newarray atype, 2))
    (kk : ∀ (q : Nat) (H1 : Heap), nh_S D cl sk cA A H0 (nu S n (some (2, N'))) (nu g n q) (nu I n (fun _ => 0)) (nu R n (fun _ => none)) H1 locs →
      W p l e Rm s m args below meth c H1 locs (cells + 1) (slots + N') Q (F0 m (pc + 2) ls (.ref q :: rest))) : W p l e Rm s m args below meth c H locs cells slots Q (F0 m pc ls (.int x :: rest)) := by
  refine va_newaK (atype := atype) hexec hb (by rw [hat]; exact harr) rfl hdg rfl hx hN (by rw [hat]; exact hbytes) hcells hslots rfl fun H1 cA' e1 z1 o1 hAr hNm => ?_
  rw [hat] at e1 hNm
  have hcc : cA' = cA 1 := by
    have h2 : s.vm.findClass ("[" ++ (FieldType.boolean).toString) = some (cA 1) := (hK.2 1 _ ht).2
    exact Option.some.inj (hNm.symm.trans h2)
  subst hcc
  exact kk H.size H1 (hw.new n hn z1 o1 (fun g' => e1))
theorem nm_newR (n : nh_N) (hexec : p.tables.exec = Jvm.exec) (hb : c.code = cc) {own C : String} {index t : Nat} (hown : s.vm.findClass own = some m.cls) (hclink : (Cond.classLink own index C).before args s = true) (hover : va_AO C s) (hK : va_K D cl tys s) (hw : nh_S D cl sk cA A H0 S g I R H locs) (hn : S n = none) (ht : tys[t + 2]? = some (cA (t + 2), .object C))
    {x : Int32} {N' : Nat} (hx : ¬ x < 0) (hN : x.toNatClampNeg = N') (hbytes : N' * 4 ≤ 536870912) (hcells : cells + 1 ≤ Rm.cells) (hslots : slots + N' ≤ Rm.slots) (hdg : decode cc pc = .ok (.anewarray index, 3))
    (kk : ∀ (q : Nat) (H1 : Heap), nh_S D cl sk cA A H0 (nu S n (some (t + 3, N'))) (nu g n q) (nu I n (fun _ => 0)) (nu R n (fun _ => none)) H1 locs →
      W p l e Rm s m args below meth c H1 locs (cells + 1) (slots + N') Q (F0 m (pc + 3) ls (.ref q :: rest))) : W p l e Rm s m args below meth c H locs cells slots Q (F0 m pc ls (.int x :: rest)) := by
  subst hN
  refine W.anew hexec hb hown hclink (va_AO.use hover) rfl hdg rfl hx hbytes hcells hslots fun cA' kA comp f1 f2 f3 f4 => ?_
  have hcc : cA' = cA (t + 2) := by
    obtain ⟨_, _, -, -, -, h2⟩ := (hK.2 (t + 2) _ ht).2
    exact Option.some.inj (f1.symm.trans h2)
  subst hcc
  generalize hH1 : H.push ({ cls := cA (t + 2), slots := Array.replicate x.toNatClampNeg .null, vm := .none } : Cell) = H1
  have z1 : H1.size = H.size + 1 := by rw [← hH1, Array.size_push]
  have e1 : H1[H.size]? = some (arrV (cA (t + 2)) x.toNatClampNeg (fun _ => .null)) := by rw [← hH1, Array.getElem?_push_size, ← arrV_new]
  have o1 : ∀ q : Nat, q < H.size → H1[q]? = H[q]? := fun q hq => by rw [← hH1, Array.getElem?_push, if_neg (Nat.ne_of_lt hq)]
  exact kk H.size H1 (hw.new n hn z1 o1 (fun g' => e1))
end NHR
end
section
/-! CONTRACTS over named heaps, and calls -/
def nh_Pc (D : va_G) (cl : List vw_C) (sk : Nat → Nat → Bool) (cA : Nat → ClassId) (Kx : State → Prop) (av : List Value) (S : nh_N → Option nh_C) (g : nh_N → Nat) (I : nh_N → Nat → Int32) (R : nh_N → Nat → Option nh_N) (sz : Nat) : Array Value → State → Prop := va_Pc av (fun U => U.heap.size = sz ∧ nh_P D cl sk cA S g I R U.heap ∧ Kx U)
abbrev nh_post : Type := Option Value → (nh_N → Option nh_C) → (nh_N → Nat) → (nh_N → Nat → Int32) → (nh_N → Nat → Option nh_N) → Prop
def nh_Q (D : va_G) (cl : List vw_C) (sk : Nat → Nat → Bool) (cA : Nat → ClassId) (A : Nat → Prop) (post : nh_post) : Array Value → State → Outcome → State → Prop := fun _ st oc t => (∃ (v : Option Value) (S' : nh_N → Option nh_C) (g' : nh_N → Nat) (I' : nh_N → Nat → Int32) (R' : nh_N → Nat → Option nh_N), oc = .returned v ∧ post v S' g' I' R' ∧ nh_P D cl sk cA S' g' I' R' t.heap ∧ ∀ n c, S' n = some c → A (g' n)) ∧ va_F A st t
/-- method y, with fr frames and lo words of locals below it, makes mc cells of ms slots: from the arguments av and the named heap S g I R it comes to post -/
def nh_M (l : Launch) (y : MethodName) (ws : List Cond) (fr lo mc ms : Nat) (D : va_G) (cl : List vw_C) (sk : Nat → Nat → Bool) (cA : Nat → ClassId) (Kx : State → Prop) (av : List Value) (S : nh_N → Option nh_C) (g : nh_N → Nat) (I : nh_N → Nat → Int32) (R : nh_N → Nat → Option nh_N) (post : nh_post) : Prop :=
  ∀ sz : Nat, Met l y ws { frames := fr, cells := mc, slots := ms, locals := lo } (nh_Pc D cl sk cA Kx av S g I R sz) (nh_Q D cl sk cA (nh_A S g sz) post) mc ms (nh_A S g sz)
def nh_Kok (Kx : State → Prop) : Prop := (∀ u U : State, u.WarmedH U.vm → Kx u → Kx U) ∧ ∀ u U : State, u.vm = U.vm → Kx u → Kx U
theorem nh_of {l : Launch} {y : MethodName} {ws ws' : List Cond} {fr lo mc ms : Nat} {D : va_G} {cl : List vw_C} {sk : Nat → Nat → Bool} {cA : Nat → ClassId} {Kx : State → Prop} {av : List Value} {S : nh_N → Option nh_C} {g : nh_N → Nat} {I : nh_N → Nat → Int32} {R : nh_N → Nat → Option nh_N} {post : nh_post} {cc : ByteArray} {maxL : Nat} {ret : Option FieldType}
    (hy : plainName y.cls = true) (hw : ws = Cond.code y cc maxL ret :: ws') (hlen : (lg_sl av).length ≤ maxL)
    (body : ∀ (p : Program) (e : Env) (s : State) (m : MethodId) (below : List Frame) (meth : Method) (c : Code) (A : Nat → Prop) (ls : Array Slot), p.tables.exec = Jvm.exec → c.code = cc → meth.sig.returnType = ret → c.maxLocals = maxL → (∀ w ∈ ws, w.before av.toArray s = true) → s.vm.findClass y.cls = some m.cls → meth.locks = false → meth.name = y.name → Kx s → nh_S D cl sk cA A s.heap S g I R s.heap [] → lv_has ls maxL (lv_args 0 av) →
      W p l e { frames := fr, cells := mc, slots := ms, locals := lo } s m av.toArray below meth c s.heap [] 0 0 (MQ below (nh_Q D cl sk cA A post) av.toArray s mc ms A) (F0 m 0 ls [])) : nh_M l y ws fr lo mc ms D cl sk cA Kx av S g I R post := by
  intro sz
  refine Met.ofW (cc := cc) (maxL := maxL) (ret := ret) hy hw ?_
  intro p e s m args below meth c s₁ B hml hv
  obtain ⟨rfl, hsz, hP, hK⟩ := hv
  subst hsz
  have hl := lv_entry av (n := maxL) hlen
  rw [lg_entry_eq]
  exact body p e s m below meth c _ _ B.exec B.bytes B.returns hml (atoms_spec (ws := ws) B.pre) (findClass_of_methodNamed B.named) B.notSynchronized (name_of_methodNamed B.named B.method).1 hK ⟨hP, fun n c h => Or.inl ⟨n, c, h, rfl⟩, va_S.rf, fun q h => Or.inr h⟩ hl
section NHC
variable {p : Program} {l : Launch} {e : Env} {Rm : Room} {s : State} {m : MethodId} {args : Array Value} {below : List Frame} {meth : Method} {c : Code} {H : Heap} {locs : List Loc} {cells slots : Nat} {Q : State → Prop}
variable {cc : ByteArray} {pc : Nat} {ls : Array Slot} {rest st0 : List Value} {D : va_G} {cl : List vw_C} {sk : Nat → Nat → Bool} {cA : Nat → ClassId} {A A0 : Nat → Prop} {tys : List (ClassId × FieldType)} {S : nh_N → Option nh_C} {g : nh_N → Nat} {I : nh_N → Nat → Int32} {R : nh_N → Nat → Option nh_N} {H0 : Heap} {post : nh_post} {mc ms : Nat} {a : Array Value} {Kx : State → Prop}
theorem nh_iret {ty : FieldType} {v : Int32} (hexec : p.tables.exec = Jvm.exec) (hb : c.code = cc) (hr : meth.sig.returnType = some ty) (hn : narrow ty (.int v) = .int v) (hlocks : meth.locks = false) (hw : nh_S D cl sk cA A s.heap S g I R H locs) (h1 : cells ≤ mc) (h2 : slots ≤ ms) (hdg : decode cc pc = .ok (.ireturn, 1)) (hp : post (some (.int v)) S g I R) : W p l e Rm s m args below meth c H locs cells slots (MQ below (nh_Q D cl sk cA A post) args s mc ms A) (F0 m pc ls [.int v]) :=
  W.widen h1 h2 (W.zret hexec hb hr hn (fun t ht _ => ⟨⟨_, _, _, _, _, rfl, hp, by rw [ht]; exact hw.1, hw.2.1⟩, hw.2.2.1.F ht⟩) hw.2.2.1.2.2 hdg hlocks)
theorem nh_vret (hexec : p.tables.exec = Jvm.exec) (hb : c.code = cc) (hr : meth.sig.returnType = none) (hlocks : meth.locks = false) (hw : nh_S D cl sk cA A s.heap S g I R H locs) (h1 : cells ≤ mc) (h2 : slots ≤ ms) (hdg : decode cc pc = .ok (.return_, 1)) (hp : post none S g I R) : W p l e Rm s m args below meth c H locs cells slots (MQ below (nh_Q D cl sk cA A post) args s mc ms A) (F0 m pc ls []) :=
  W.widen h1 h2 (W.vret hexec hb hr (fun t ht _ => ⟨⟨_, _, _, _, _, rfl, hp, by rw [ht]; exact hw.1, hw.2.1⟩, hw.2.2.1.F ht⟩) hw.2.2.1.2.2 hdg hlocks)
theorem nh_aret {v : Value} {rt : FieldType} (hexec : p.tables.exec = Jvm.exec) (hb : c.code = cc) (hr : meth.sig.returnType = some rt) (hrt : (∃ n, rt = .object n) ∨ ∃ t, rt = .array t) (hv : v = .null ∨ ∃ a, v = .ref a) (hlocks : meth.locks = false) (hw : nh_S D cl sk cA A s.heap S g I R H locs) (h1 : cells ≤ mc) (h2 : slots ≤ ms) (hdg : decode cc pc = .ok (.areturn, 1)) (hp : post (some v) S g I R) : W p l e Rm s m args below meth c H locs cells slots (MQ below (nh_Q D cl sk cA A post) args s mc ms A) (F0 m pc ls [v]) :=
  W.widen h1 h2 (W.aret hexec hb hr hrt hv (fun t ht _ => ⟨⟨_, _, _, _, _, rfl, hp, by rw [ht]; exact hw.1, hw.2.1⟩, hw.2.2.1.F ht⟩) hw.2.2.1.2.2 hdg hlocks)
/-- behind a call; the last two say what the call left of the heap that is not this system's -/
theorem nh_call2 (hr : va_Run p l e Rm s m args below meth c H locs cells slots mc ms (F0 m pc ls st0) rest (nh_Q D cl sk cA (nh_A S g H.size) post a) (nh_A S g H.size)) (hw : nh_S D cl sk cA A0 H0 S g I R H locs)
    (kk : ∀ (v : Option Value) (S' : nh_N → Option nh_C) (g' : nh_N → Nat) (I' : nh_N → Nat → Int32) (R' : nh_N → Nat → Option nh_N) (H1 : Heap) (locs1 : List Loc), post v S' g' I' R' → nh_S D cl sk cA A0 H0 S' g' I' R' H1 locs1 → (∀ q, q < H.size → ¬ nh_A S g H.size q → H1[q]? = H[q]?) → (∀ n c, S' n = some c → nh_A S g H.size (g' n)) →
      W p l e Rm s m args below meth c H1 locs1 (cells + mc) (slots + ms) Q (F0 m (pc + 3) ls (v.toList ++ rest))) : W p l e Rm s m args below meth c H locs cells slots Q (F0 m pc ls st0) := by
  intro T hT X
  obtain ⟨v, st₀, t, T', L, h0, X', hL, e1, e2, ⟨⟨v', S', g', I', R', hv, hp, hP, hA⟩, hz, hk⟩, st⟩ := hr T hT X
  cases hv
  rw [h0] at hz hk
  have hsub : ∀ q, nh_A S g H.size q → A0 q := by
    intro q hq
    rcases hq with ⟨n, c, h1, h2⟩ | h1
    · rw [← h2]; exact hw.2.1 n c h1
    · exact hw.2.2.2 q (Nat.le_trans hw.2.2.1.1 h1)
  obtain ⟨t2, a1, b1⟩ := kk v S' g' I' R' T'.heap (locs ++ L) hp ⟨by rw [e1]; exact hP, fun n c h => hsub _ (hA n c h), ⟨Nat.le_trans hw.2.2.1.1 (by rw [e1]; exact hz), fun q h1 h2 => by rw [e1, hk q (Nat.lt_of_lt_of_le h1 hw.2.2.1.1) (fun z => h2 (hsub q z))]; exact hw.2.2.1.2.1 q h1 h2, fun q hq => by
      rcases List.mem_append.mp hq with h | h
      · exact hw.2.2.1.2.2 q h
      · exact hsub _ (hL q h)⟩, hw.2.2.2⟩ (fun q h1 h2 => by rw [e1]; exact hk q h1 h2) hA T' rfl X'
  exact ⟨t2, st t2 a1, b1⟩
theorem nh_call (hr : va_Run p l e Rm s m args below meth c H locs cells slots mc ms (F0 m pc ls st0) rest (nh_Q D cl sk cA (nh_A S g H.size) post a) (nh_A S g H.size)) (hw : nh_S D cl sk cA A0 H0 S g I R H locs)
    (kk : ∀ (v : Option Value) (S' : nh_N → Option nh_C) (g' : nh_N → Nat) (I' : nh_N → Nat → Int32) (R' : nh_N → Nat → Option nh_N) (H1 : Heap) (locs1 : List Loc), post v S' g' I' R' → nh_S D cl sk cA A0 H0 S' g' I' R' H1 locs1 →
      W p l e Rm s m args below meth c H1 locs1 (cells + mc) (slots + ms) Q (F0 m (pc + 3) ls (v.toList ++ rest))) : W p l e Rm s m args below meth c H locs cells slots Q (F0 m pc ls st0) :=
  nh_call2 hr hw fun v S' g' I' R' H1 locs1 hp h _ _ => kk v S' g' I' R' H1 locs1 hp h
theorem nh_preS {As : List Value} (hw : nh_S D cl sk cA A0 H0 S g I R H locs) (hKo : nh_Kok Kx) (hK : Kx s) : PreS s H (nh_Pc D cl sk cA Kx As S g I R H.size) As :=
  ⟨fun a U g' mk q => by
    obtain ⟨q0, q1, qP, qK⟩ := q
    exact ⟨q0, q1, qP, hKo.2 U _ rfl qK⟩, fun U hU hW => ⟨rfl, by rw [hU], by rw [hU]; exact hw.1, hKo.1 s U hW hK⟩⟩
theorem nh_preV {As : List Value} {b ci : Nat} {n : nh_N} {C : String} {T : u_T} {N : Nat} (hw : nh_S D cl sk cA A0 H0 S g I R H locs) (hKo : nh_Kok Kx) (hK : Kx s) (hKa : va_K D cl tys s) (hn : S n = some (0, ci)) (hb : g n = b) (hc : cl[ci]? = some (C, T, N)) : PreV s H C b (nh_Pc D cl sk cA Kx (.ref b :: As) S g I R H.size) As := by
  refine ⟨(nh_preS (As := .ref b :: As) hw hKo hK).1, ?_, (nh_preS (As := .ref b :: As) hw hKo hK).2⟩
  subst hb
  obtain ⟨q', h1, cell, g1, g2, g3, -⟩ := hw.1.1 n _ hn
  exact ⟨cell, g1, by rw [g3]; rfl, by rw [g2]; exact (hKa.1 ci _ hc).2.1⟩
variable {y : MethodName} {bytes : ByteArray} {maxL nL n index fr lo : Nat} {ret : Option FieldType} {ws Ts : List Cond} {own C host : String} {b : Addr} {As : List Value}
theorem nh_callV {nm : nh_N} {ci N : Nat} {T : u_T} (S0 : CallFix p m c cc nL s args Ts own) (hM : nh_M l y ws fr lo mc ms D cl sk cA Kx (.ref b :: As) S g I R post) (cw : CallW Rm s args own C index y bytes maxL ret ws { frames := fr, cells := mc, slots := ms, locals := lo } mc ms n) (hKo : nh_Kok Kx) (hK : Kx s) (hKa : va_K D cl tys s) (hw : nh_S D cl sk cA A0 H0 S g I R H locs) (hn : S nm = some (0, ci)) (hg : g nm = b) (hc : cl[ci]? = some (C, T, N)) (hlen : As.length = n) (hsize : ls.size = nL) (hstack : st0 = As.reverse ++ .ref b :: rest) (hroom : (rest.map fun v => v.category).sum ≤ 8) (hdg : decode cc pc = .ok (.invokevirtual index, 3)) (hf : cells + mc ≤ Rm.cells ∧ slots + ms ≤ Rm.slots)
    (kk : ∀ (v : Option Value) (S' : nh_N → Option nh_C) (g' : nh_N → Nat) (I' : nh_N → Nat → Int32) (R' : nh_N → Nat → Option nh_N) (H1 : Heap) (locs1 : List Loc), post v S' g' I' R' → nh_S D cl sk cA A0 H0 S' g' I' R' H1 locs1 →
      W p l e Rm s m args below meth c H1 locs1 (cells + mc) (slots + ms) Q (F0 m (pc + 3) ls (v.toList ++ rest))) : W p l e Rm s m args below meth c H locs cells slots Q (F0 m pc ls st0) :=
  nh_call (va_runV (As := As) (rest := rest) S0 (hM H.size) cw (nh_preV hw hKo hK hKa hn hg hc) rfl hlen hsize hstack (lv_room hroom) hdg hf) hw kk
theorem nh_callV2 {nm : nh_N} {ci N : Nat} {T : u_T} (S0 : CallFix p m c cc nL s args Ts own) (hM : nh_M l y ws fr lo mc ms D cl sk cA Kx (.ref b :: As) S g I R post) (cw : CallW Rm s args own C index y bytes maxL ret ws { frames := fr, cells := mc, slots := ms, locals := lo } mc ms n) (hKo : nh_Kok Kx) (hK : Kx s) (hKa : va_K D cl tys s) (hw : nh_S D cl sk cA A0 H0 S g I R H locs) (hn : S nm = some (0, ci)) (hg : g nm = b) (hc : cl[ci]? = some (C, T, N)) (hlen : As.length = n) (hsize : ls.size = nL) (hstack : st0 = As.reverse ++ .ref b :: rest) (hroom : (rest.map fun v => v.category).sum ≤ 8) (hdg : decode cc pc = .ok (.invokevirtual index, 3)) (hf : cells + mc ≤ Rm.cells ∧ slots + ms ≤ Rm.slots)
    (kk : ∀ (v : Option Value) (S' : nh_N → Option nh_C) (g' : nh_N → Nat) (I' : nh_N → Nat → Int32) (R' : nh_N → Nat → Option nh_N) (H1 : Heap) (locs1 : List Loc), post v S' g' I' R' → nh_S D cl sk cA A0 H0 S' g' I' R' H1 locs1 → (∀ q, q < H.size → ¬ nh_A S g H.size q → H1[q]? = H[q]?) → (∀ n c, S' n = some c → nh_A S g H.size (g' n)) →
      W p l e Rm s m args below meth c H1 locs1 (cells + mc) (slots + ms) Q (F0 m (pc + 3) ls (v.toList ++ rest))) : W p l e Rm s m args below meth c H locs cells slots Q (F0 m pc ls st0) :=
  nh_call2 (va_runV (As := As) (rest := rest) S0 (hM H.size) cw (nh_preV hw hKo hK hKa hn hg hc) rfl hlen hsize hstack (lv_room hroom) hdg hf) hw kk
theorem nh_callS (S0 : CallFix p m c cc nL s args Ts own) (hM : nh_M l y ws fr lo mc ms D cl sk cA Kx As S g I R post) (cw : CallB Rm s args own index y bytes maxL ret ws { frames := fr, cells := mc, slots := ms, locals := lo } mc ms n ∧ (Cond.static y).before args s = true) (hKo : nh_Kok Kx) (hK : Kx s) (hw : nh_S D cl sk cA A0 H0 S g I R H locs) (hlen : As.length = n) (hsize : ls.size = nL) (hstack : st0 = As.reverse ++ rest) (hroom : (rest.map fun v => v.category).sum ≤ 8) (hdg : decode cc pc = .ok (.invokestatic index, 3)) (hf : cells + mc ≤ Rm.cells ∧ slots + ms ≤ Rm.slots)
    (kk : ∀ (v : Option Value) (S' : nh_N → Option nh_C) (g' : nh_N → Nat) (I' : nh_N → Nat → Int32) (R' : nh_N → Nat → Option nh_N) (H1 : Heap) (locs1 : List Loc), post v S' g' I' R' → nh_S D cl sk cA A0 H0 S' g' I' R' H1 locs1 →
      W p l e Rm s m args below meth c H1 locs1 (cells + mc) (slots + ms) Q (F0 m (pc + 3) ls (v.toList ++ rest))) : W p l e Rm s m args below meth c H locs cells slots Q (F0 m pc ls st0) :=
  nh_call (va_runS (As := As) (rest := rest) S0 (hM H.size) cw (nh_preS hw hKo hK) rfl hlen hsize hstack (lv_room hroom) hdg hf) hw kk
theorem nh_callI (S0 : CallFix p m c cc nL s args Ts own) (hM : nh_M l y ws fr lo mc ms D cl sk cA Kx (.ref b :: As) S g I R post) (cw : CallB Rm s args own index y bytes maxL none ws { frames := fr, cells := mc, slots := ms, locals := lo } mc ms n ∧ y.name = "<init>" ∧ (Cond.instanceMethod y).before args s = true) (hKo : nh_Kok Kx) (hK : Kx s) (hw : nh_S D cl sk cA A0 H0 S g I R H locs) (hlen : As.length = n) (hsize : ls.size = nL) (hstack : st0 = As.reverse ++ .ref b :: rest) (hroom : (rest.map fun v => v.category).sum ≤ 8) (hdg : decode cc pc = .ok (.invokespecial index, 3)) (hf : cells + mc ≤ Rm.cells ∧ slots + ms ≤ Rm.slots)
    (kk : ∀ (v : Option Value) (S' : nh_N → Option nh_C) (g' : nh_N → Nat) (I' : nh_N → Nat → Int32) (R' : nh_N → Nat → Option nh_N) (H1 : Heap) (locs1 : List Loc), post v S' g' I' R' → nh_S D cl sk cA A0 H0 S' g' I' R' H1 locs1 → (∀ q, q < H.size → ¬ nh_A S g H.size q → H1[q]? = H[q]?) → (∀ n c, S' n = some c → nh_A S g H.size (g' n)) →
      W p l e Rm s m args below meth c H1 locs1 (cells + mc) (slots + ms) Q (F0 m (pc + 3) ls (v.toList ++ rest))) : W p l e Rm s m args below meth c H locs cells slots Q (F0 m pc ls st0) :=
  nh_call2 (va_runI (As := As) (rest := rest) S0 (hM H.size) cw (nh_preS (As := .ref b :: As) hw hKo hK) rfl hlen hsize hstack (lv_room hroom) hdg hf) hw kk
theorem nh_callSN (S0 : CallFix p m c cc nL s args Ts own) (hM : nh_M l y ws fr lo mc ms D cl sk cA Kx As S g I R post) (cw : va_CN Rm s args own index y host bytes maxL ret ws { frames := fr, cells := mc, slots := ms, locals := lo } mc ms n ∧ (Cond.static y).before args s = true ∧ True) (hKo : nh_Kok Kx) (hK : Kx s) (hw : nh_S D cl sk cA A0 H0 S g I R H locs) (hlen : As.length = n) (hsize : ls.size = nL) (hstack : st0 = As.reverse ++ rest) (hroom : (rest.map fun v => v.category).sum ≤ 8) (hdg : decode cc pc = .ok (.invokestatic index, 3)) (hf : cells + mc ≤ Rm.cells ∧ slots + ms ≤ Rm.slots)
    (kk : ∀ (v : Option Value) (S' : nh_N → Option nh_C) (g' : nh_N → Nat) (I' : nh_N → Nat → Int32) (R' : nh_N → Nat → Option nh_N) (H1 : Heap) (locs1 : List Loc), post v S' g' I' R' → nh_S D cl sk cA A0 H0 S' g' I' R' H1 locs1 →
      W p l e Rm s m args below meth c H1 locs1 (cells + mc) (slots + ms) Q (F0 m (pc + 3) ls (v.toList ++ rest))) : W p l e Rm s m args below meth c H locs cells slots Q (F0 m pc ls st0) :=
  nh_call (va_runSN (As := As) (rest := rest) S0 (hM H.size) cw (nh_preS hw hKo hK) rfl hlen hsize hstack (lv_room hroom) hdg hf) hw kk
end NHC
end
section
-- ===== PART A: goes FIRST, ahead of the names: the tables' words, and 'selects' of the private methods out of them =====
/-- a private method of a class that the tables say can be made, by its rows of tables_1 -/
def lw_okq (q : MethodName × Nat) : Prop := (q.1.cls ≠ "java/lang/invoke/MethodHandle" ∧ q.1.cls ≠ "java/lang/invoke/VarHandle") ∧ Cond.instantiable q.1.cls q.2 ∈ tables_1 ∧ Cond.privateMethod q.1 ∈ tables_1 ∧ Cond.instanceMethod q.1 ∈ tables_1
theorem lw_p0 : lw_okq (⟨"InsertMarks", "kindAt", "(I)LInsertMarks$Kind;"⟩, 9) := ⟨⟨by decide +kernel, by decide +kernel⟩, List.mem_of_getElem? (i := 10) (by decide +kernel), List.mem_of_getElem? (i := 123) (by decide +kernel), List.mem_of_getElem? (i := 124) (by decide +kernel)⟩
theorem lw_p1 : lw_okq (⟨"InsertMarks", "isClosed", "(I)Z"⟩, 9) := ⟨⟨by decide +kernel, by decide +kernel⟩, List.mem_of_getElem? (i := 10) (by decide +kernel), List.mem_of_getElem? (i := 130) (by decide +kernel), List.mem_of_getElem? (i := 131) (by decide +kernel)⟩
theorem lw_p2 : lw_okq (⟨"InsertMarks", "closeNextPage", "()I"⟩, 9) := ⟨⟨by decide +kernel, by decide +kernel⟩, List.mem_of_getElem? (i := 10) (by decide +kernel), List.mem_of_getElem? (i := 185) (by decide +kernel), List.mem_of_getElem? (i := 186) (by decide +kernel)⟩
theorem lw_p3 : lw_okq (⟨"InsertMarks", "lineUpInsertsOf", "(I)V"⟩, 9) := ⟨⟨by decide +kernel, by decide +kernel⟩, List.mem_of_getElem? (i := 10) (by decide +kernel), List.mem_of_getElem? (i := 189) (by decide +kernel), List.mem_of_getElem? (i := 190) (by decide +kernel)⟩
theorem lw_p4 : lw_okq (⟨"InsertMarks", "insertAt", "(I)LInsertMarks$Insert;"⟩, 9) := ⟨⟨by decide +kernel, by decide +kernel⟩, List.mem_of_getElem? (i := 10) (by decide +kernel), List.mem_of_getElem? (i := 193) (by decide +kernel), List.mem_of_getElem? (i := 194) (by decide +kernel)⟩
theorem lw_p5 : lw_okq (⟨"InsertMarks", "startPageInKinds", "()V"⟩, 9) := ⟨⟨by decide +kernel, by decide +kernel⟩, List.mem_of_getElem? (i := 10) (by decide +kernel), List.mem_of_getElem? (i := 201) (by decide +kernel), List.mem_of_getElem? (i := 202) (by decide +kernel)⟩
theorem lw_p6 : lw_okq (⟨"InsertMarks", "goThroughLine", "(LInsertMarks$Page;)V"⟩, 9) := ⟨⟨by decide +kernel, by decide +kernel⟩, List.mem_of_getElem? (i := 10) (by decide +kernel), List.mem_of_getElem? (i := 233) (by decide +kernel), List.mem_of_getElem? (i := 234) (by decide +kernel)⟩
theorem lw_p7 : lw_okq (⟨"InsertMarks", "goThrough", "(LInsertMarks$Page;LInsertMarks$Insert;)Z"⟩, 9) := ⟨⟨by decide +kernel, by decide +kernel⟩, List.mem_of_getElem? (i := 10) (by decide +kernel), List.mem_of_getElem? (i := 237) (by decide +kernel), List.mem_of_getElem? (i := 238) (by decide +kernel)⟩
theorem lw_p8 : lw_okq (⟨"InsertMarks", "freeOn", "(LInsertMarks$Page;LInsertMarks$Kind;)I"⟩, 9) := ⟨⟨by decide +kernel, by decide +kernel⟩, List.mem_of_getElem? (i := 10) (by decide +kernel), List.mem_of_getElem? (i := 241) (by decide +kernel), List.mem_of_getElem? (i := 242) (by decide +kernel)⟩
theorem lw_p9 : lw_okq (⟨"InsertMarks", "closedPageAt", "(I)LInsertMarks$Page;"⟩, 9) := ⟨⟨by decide +kernel, by decide +kernel⟩, List.mem_of_getElem? (i := 10) (by decide +kernel), List.mem_of_getElem? (i := 299) (by decide +kernel), List.mem_of_getElem? (i := 300) (by decide +kernel)⟩
theorem lw_p10 : lw_okq (⟨"InsertMarksModel", "isClass", "(I)Z"⟩, 28) := ⟨⟨by decide +kernel, by decide +kernel⟩, List.mem_of_getElem? (i := 349) (by decide +kernel), List.mem_of_getElem? (i := 451) (by decide +kernel), List.mem_of_getElem? (i := 452) (by decide +kernel)⟩
theorem lw_p11 : lw_okq (⟨"InsertMarksModel", "waits", "(I)Z"⟩, 28) := ⟨⟨by decide +kernel, by decide +kernel⟩, List.mem_of_getElem? (i := 349) (by decide +kernel), List.mem_of_getElem? (i := 463) (by decide +kernel), List.mem_of_getElem? (i := 464) (by decide +kernel)⟩
theorem lw_p12 : lw_okq (⟨"InsertMarksModel", "go", "(I)V"⟩, 28) := ⟨⟨by decide +kernel, by decide +kernel⟩, List.mem_of_getElem? (i := 349) (by decide +kernel), List.mem_of_getElem? (i := 467) (by decide +kernel), List.mem_of_getElem? (i := 468) (by decide +kernel)⟩
theorem lw_p13 : lw_okq (⟨"InsertMarksModel", "standing", "(II)I"⟩, 28) := ⟨⟨by decide +kernel, by decide +kernel⟩, List.mem_of_getElem? (i := 349) (by decide +kernel), List.mem_of_getElem? (i := 471) (by decide +kernel), List.mem_of_getElem? (i := 472) (by decide +kernel)⟩
theorem lw_p14 : lw_okq (⟨"InsertMarksModel", "place", "(IIZ)V"⟩, 28) := ⟨⟨by decide +kernel, by decide +kernel⟩, List.mem_of_getElem? (i := 349) (by decide +kernel), List.mem_of_getElem? (i := 475) (by decide +kernel), List.mem_of_getElem? (i := 476) (by decide +kernel)⟩
theorem lw_p15 : lw_okq (⟨"InsertMarksModel", "isIn", "(II)Z"⟩, 28) := ⟨⟨by decide +kernel, by decide +kernel⟩, List.mem_of_getElem? (i := 349) (by decide +kernel), List.mem_of_getElem? (i := 479) (by decide +kernel), List.mem_of_getElem? (i := 480) (by decide +kernel)⟩
def lw_privs_1 : List (MethodName × Nat) := [(⟨"InsertMarks", "kindAt", "(I)LInsertMarks$Kind;"⟩, 9), (⟨"InsertMarks", "isClosed", "(I)Z"⟩, 9), (⟨"InsertMarks", "closeNextPage", "()I"⟩, 9), (⟨"InsertMarks", "lineUpInsertsOf", "(I)V"⟩, 9), (⟨"InsertMarks", "insertAt", "(I)LInsertMarks$Insert;"⟩, 9), (⟨"InsertMarks", "startPageInKinds", "()V"⟩, 9), (⟨"InsertMarks", "goThroughLine", "(LInsertMarks$Page;)V"⟩, 9), (⟨"InsertMarks", "goThrough", "(LInsertMarks$Page;LInsertMarks$Insert;)Z"⟩, 9), (⟨"InsertMarks", "freeOn", "(LInsertMarks$Page;LInsertMarks$Kind;)I"⟩, 9), (⟨"InsertMarks", "closedPageAt", "(I)LInsertMarks$Page;"⟩, 9), (⟨"InsertMarksModel", "isClass", "(I)Z"⟩, 28), (⟨"InsertMarksModel", "waits", "(I)Z"⟩, 28), (⟨"InsertMarksModel", "go", "(I)V"⟩, 28), (⟨"InsertMarksModel", "standing", "(II)I"⟩, 28), (⟨"InsertMarksModel", "place", "(IIZ)V"⟩, 28), (⟨"InsertMarksModel", "isIn", "(II)Z"⟩, 28)]
theorem lw_r1 : ∀ q ∈ lw_privs_1, lw_okq q := List.forall_mem_cons.mpr ⟨lw_p0, List.forall_mem_cons.mpr ⟨lw_p1, List.forall_mem_cons.mpr ⟨lw_p2, List.forall_mem_cons.mpr ⟨lw_p3, List.forall_mem_cons.mpr ⟨lw_p4, List.forall_mem_cons.mpr ⟨lw_p5, List.forall_mem_cons.mpr ⟨lw_p6, List.forall_mem_cons.mpr ⟨lw_p7, List.forall_mem_cons.mpr ⟨lw_p8, List.forall_mem_cons.mpr ⟨lw_p9, List.forall_mem_cons.mpr ⟨lw_p10, List.forall_mem_cons.mpr ⟨lw_p11, List.forall_mem_cons.mpr ⟨lw_p12, List.forall_mem_cons.mpr ⟨lw_p13, List.forall_mem_cons.mpr ⟨lw_p14, List.forall_mem_cons.mpr ⟨lw_p15, fun _ h => absurd h List.not_mem_nil⟩⟩⟩⟩⟩⟩⟩⟩⟩⟩⟩⟩⟩⟩⟩⟩
theorem lw_p16 : lw_okq (⟨"InsertMarksModel", "heldAt", "(I)I"⟩, 28) := ⟨⟨by decide +kernel, by decide +kernel⟩, List.mem_of_getElem? (i := 349) (by decide +kernel), List.mem_of_getElem? (i := 487) (by decide +kernel), List.mem_of_getElem? (i := 488) (by decide +kernel)⟩
theorem lw_p17 : lw_okq (⟨"InsertMarksModel", "partAt", "(II)I"⟩, 28) := ⟨⟨by decide +kernel, by decide +kernel⟩, List.mem_of_getElem? (i := 349) (by decide +kernel), List.mem_of_getElem? (i := 500) (by decide +kernel), List.mem_of_getElem? (i := 501) (by decide +kernel)⟩
theorem lw_p18 : lw_okq (⟨"InsertMarksModel", "markOn", "(IIZ)I"⟩, 28) := ⟨⟨by decide +kernel, by decide +kernel⟩, List.mem_of_getElem? (i := 349) (by decide +kernel), List.mem_of_getElem? (i := 520) (by decide +kernel), List.mem_of_getElem? (i := 521) (by decide +kernel)⟩
theorem lw_p19 : lw_okq (⟨"InsertMarksModel", "lastBefore", "(II)I"⟩, 28) := ⟨⟨by decide +kernel, by decide +kernel⟩, List.mem_of_getElem? (i := 349) (by decide +kernel), List.mem_of_getElem? (i := 524) (by decide +kernel), List.mem_of_getElem? (i := 525) (by decide +kernel)⟩
def lw_privs_2 : List (MethodName × Nat) := [(⟨"InsertMarksModel", "heldAt", "(I)I"⟩, 28), (⟨"InsertMarksModel", "partAt", "(II)I"⟩, 28), (⟨"InsertMarksModel", "markOn", "(IIZ)I"⟩, 28), (⟨"InsertMarksModel", "lastBefore", "(II)I"⟩, 28)]
theorem lw_r2 : ∀ q ∈ lw_privs_2, lw_okq q := List.forall_mem_cons.mpr ⟨lw_p16, List.forall_mem_cons.mpr ⟨lw_p17, List.forall_mem_cons.mpr ⟨lw_p18, List.forall_mem_cons.mpr ⟨lw_p19, fun _ h => absurd h List.not_mem_nil⟩⟩⟩⟩
def lw_privs : List (MethodName × Nat) := lw_privs_1 ++ (lw_privs_2)
def lw_tbl : List Cond := k2_sels lw_privs ++ tables_1
theorem lw_privs_ok : ∀ q ∈ lw_privs, lw_okq q := by
  show ∀ q ∈ lw_privs_1 ++ (lw_privs_2), lw_okq q
  exact List.forall_mem_append.mpr ⟨lw_r1, lw_r2⟩
/-! NAMES, by program -/
def im_ws : List Cond := lw_tbl.filter goodWord
theorem im_good {w : Cond} (h : w ∈ im_ws) : w ∈ lw_tbl ∧ ((w.onTables && w.keeps) = true ∨ ∃ ty, w = .arrayClass ty) := ⟨(List.mem_filter.mp h).1, good_of_word (List.mem_filter.mp h).2⟩
theorem im_m (i : Nat) {w : Cond} (h : lw_tbl[i]? = some w) (g : goodWord w = true) : w ∈ im_ws := List.mem_filter.mpr ⟨List.mem_of_getElem? h, g⟩
def qR0 : String := "InsertMarks$Insert"
def qT0 : u_T := fun k => match k with
  | 0 => ("InsertMarks$Insert", "index", "I", true)
  | 1 => ("InsertMarks$Insert", "kind", "LInsertMarks$Kind;", true)
  | 2 => ("InsertMarks$Insert", "page", "I", true)
  | 3 => ("InsertMarks$Insert", "rest", "I", false)
  | 4 => ("InsertMarks$Insert", "number", "I", false)
  | 5 => ("InsertMarks$Insert", "firstPage", "I", false)
  | 6 => ("InsertMarks$Insert", "latestPage", "I", false)
  | _ => ("InsertMarks$Insert", "partCount", "I", false)
def qY0 : Nat → FieldType := fun k => match k with
  | 0 => .int
  | 1 => .object "InsertMarks$Kind"
  | 2 => .int
  | 3 => .int
  | 4 => .int
  | 5 => .int
  | 6 => .int
  | _ => .int
theorem qN0 : ∀ a, a < 8 → ∀ b, b < 8 → a ≠ b → (qT0 a).2.1 ≠ (qT0 b).2.1 := by decide +kernel
theorem qO0 : ∀ k, k < 8 → parseFieldDescriptor (qT0 k).2.2.1 = some (qY0 k) := by decide +kernel
def qR1 : String := "InsertMarks$Kind"
def qT1 : u_T := fun k => match k with
  | 0 => ("InsertMarks$Kind", "room", "I", true)
  | 1 => ("InsertMarks$Kind", "least", "I", true)
  | 2 => ("InsertMarks$Kind", "anew", "Z", true)
  | 3 => ("InsertMarks$Kind", "sizeOn", "[I", true)
  | 4 => ("InsertMarks$Kind", "hasMark", "[Z", true)
  | 5 => ("InsertMarks$Kind", "firstTold", "[I", true)
  | 6 => ("InsertMarks$Kind", "lastTold", "[I", true)
  | 7 => ("InsertMarks$Kind", "latestNumber", "I", false)
  | _ => ("InsertMarks$Kind", "holds", "Z", false)
def qY1 : Nat → FieldType := fun k => match k with
  | 0 => .int
  | 1 => .int
  | 2 => .boolean
  | 3 => .array (.int)
  | 4 => .array (.boolean)
  | 5 => .array (.int)
  | 6 => .array (.int)
  | 7 => .int
  | _ => .boolean
theorem qN1 : ∀ a, a < 9 → ∀ b, b < 9 → a ≠ b → (qT1 a).2.1 ≠ (qT1 b).2.1 := by decide +kernel
theorem qO1 : ∀ k, k < 9 → parseFieldDescriptor (qT1 k).2.2.1 = some (qY1 k) := by decide +kernel
def qR2 : String := "InsertMarks$Line"
def qT2 : u_T := fun k => match k with
  | 0 => ("InsertMarks$Line", "row", "[I", true)
  | _ => ("InsertMarks$Line", "length", "I", false)
def qY2 : Nat → FieldType := fun k => match k with
  | 0 => .array (.int)
  | _ => .int
theorem qN2 : ∀ a, a < 2 → ∀ b, b < 2 → a ≠ b → (qT2 a).2.1 ≠ (qT2 b).2.1 := by decide +kernel
theorem qO2 : ∀ k, k < 2 → parseFieldDescriptor (qT2 k).2.2.1 = some (qY2 k) := by decide +kernel
def qR3 : String := "InsertMarks$Page"
def qT3 : u_T := fun k => match k with
  | 0 => ("InsertMarks$Page", "number", "I", true)
  | 1 => ("InsertMarks$Page", "parts", "[LInsertMarks$Part;", true)
  | 2 => ("InsertMarks$Page", "partCount", "I", false)
  | _ => ("InsertMarks$Page", "size", "I", false)
def qY3 : Nat → FieldType := fun k => match k with
  | 0 => .int
  | 1 => .array (.object "InsertMarks$Part")
  | 2 => .int
  | _ => .int
theorem qN3 : ∀ a, a < 4 → ∀ b, b < 4 → a ≠ b → (qT3 a).2.1 ≠ (qT3 b).2.1 := by decide +kernel
theorem qO3 : ∀ k, k < 4 → parseFieldDescriptor (qT3 k).2.2.1 = some (qY3 k) := by decide +kernel
def qR4 : String := "InsertMarks$Part"
def qT4 : u_T := fun k => match k with
  | 0 => ("InsertMarks$Part", "owner", "LInsertMarks$Insert;", true)
  | 1 => ("InsertMarks$Part", "size", "I", true)
  | _ => ("InsertMarks$Part", "over", "Z", true)
def qY4 : Nat → FieldType := fun k => match k with
  | 0 => .object "InsertMarks$Insert"
  | 1 => .int
  | _ => .boolean
theorem qN4 : ∀ a, a < 3 → ∀ b, b < 3 → a ≠ b → (qT4 a).2.1 ≠ (qT4 b).2.1 := by decide +kernel
theorem qO4 : ∀ k, k < 3 → parseFieldDescriptor (qT4 k).2.2.1 = some (qY4 k) := by decide +kernel
def qR5 : String := "InsertMarks"
def qT5 : u_T := fun k => match k with
  | 0 => ("InsertMarks", "pageRoom", "I", true)
  | 1 => ("InsertMarks", "kinds", "[LInsertMarks$Kind;", true)
  | 2 => ("InsertMarks", "inserts", "[LInsertMarks$Insert;", true)
  | 3 => ("InsertMarks", "pages", "[LInsertMarks$Page;", true)
  | 4 => ("InsertMarks", "line", "LInsertMarks$Line;", true)
  | 5 => ("InsertMarks", "kindCount", "I", false)
  | 6 => ("InsertMarks", "insertCount", "I", false)
  | 7 => ("InsertMarks", "markCount", "I", false)
  | _ => ("InsertMarks", "closedCount", "I", false)
def qY5 : Nat → FieldType := fun k => match k with
  | 0 => .int
  | 1 => .array (.object "InsertMarks$Kind")
  | 2 => .array (.object "InsertMarks$Insert")
  | 3 => .array (.object "InsertMarks$Page")
  | 4 => .object "InsertMarks$Line"
  | 5 => .int
  | 6 => .int
  | 7 => .int
  | _ => .int
theorem qN5 : ∀ a, a < 9 → ∀ b, b < 9 → a ≠ b → (qT5 a).2.1 ≠ (qT5 b).2.1 := by decide +kernel
theorem qO5 : ∀ k, k < 9 → parseFieldDescriptor (qT5 k).2.2.1 = some (qY5 k) := by decide +kernel
def qR6 : String := "InsertMarksModel"
def qT6 : u_T := fun k => match k with
  | 0 => ("InsertMarksModel", "room", "I", true)
  | 1 => ("InsertMarksModel", "classes", "I", false)
  | 2 => ("InsertMarksModel", "rooms", "[I", true)
  | 3 => ("InsertMarksModel", "leasts", "[I", true)
  | 4 => ("InsertMarksModel", "anew", "[Z", true)
  | 5 => ("InsertMarksModel", "last", "[I", true)
  | 6 => ("InsertMarksModel", "inserts", "I", false)
  | 7 => ("InsertMarksModel", "classOf", "[I", true)
  | 8 => ("InsertMarksModel", "rest", "[I", true)
  | 9 => ("InsertMarksModel", "pageOf", "[I", true)
  | 10 => ("InsertMarksModel", "numbers", "[I", true)
  | 11 => ("InsertMarksModel", "gone", "[Z", true)
  | 12 => ("InsertMarksModel", "partsOf", "[I", true)
  | 13 => ("InsertMarksModel", "marks", "I", false)
  | 14 => ("InsertMarksModel", "markClass", "[I", true)
  | 15 => ("InsertMarksModel", "markPage", "[I", true)
  | 16 => ("InsertMarksModel", "markValue", "[I", true)
  | 17 => ("InsertMarksModel", "closed", "I", false)
  | 18 => ("InsertMarksModel", "parts", "I", false)
  | 19 => ("InsertMarksModel", "partPage", "[I", true)
  | 20 => ("InsertMarksModel", "partInsert", "[I", true)
  | 21 => ("InsertMarksModel", "partSize", "[I", true)
  | 22 => ("InsertMarksModel", "partOver", "[Z", true)
  | 23 => ("InsertMarksModel", "before", "I", false)
  | 24 => ("InsertMarksModel", "order", "[I", true)
  | 25 => ("InsertMarksModel", "now", "I", false)
  | 26 => ("InsertMarksModel", "next", "[I", true)
  | _ => ("InsertMarksModel", "stops", "[Z", true)
def qY6 : Nat → FieldType := fun k => match k with
  | 0 => .int
  | 1 => .int
  | 2 => .array (.int)
  | 3 => .array (.int)
  | 4 => .array (.boolean)
  | 5 => .array (.int)
  | 6 => .int
  | 7 => .array (.int)
  | 8 => .array (.int)
  | 9 => .array (.int)
  | 10 => .array (.int)
  | 11 => .array (.boolean)
  | 12 => .array (.int)
  | 13 => .int
  | 14 => .array (.int)
  | 15 => .array (.int)
  | 16 => .array (.int)
  | 17 => .int
  | 18 => .int
  | 19 => .array (.int)
  | 20 => .array (.int)
  | 21 => .array (.int)
  | 22 => .array (.boolean)
  | 23 => .int
  | 24 => .array (.int)
  | 25 => .int
  | 26 => .array (.int)
  | _ => .array (.boolean)
theorem qN6 : ∀ a, a < 28 → ∀ b, b < 28 → a ≠ b → (qT6 a).2.1 ≠ (qT6 b).2.1 := by decide +kernel
theorem qO6 : ∀ k, k < 28 → parseFieldDescriptor (qT6 k).2.2.1 = some (qY6 k) := by decide +kernel
abbrev im_cl : List vw_C := [(qR0, qT0, 8), (qR1, qT1, 9), (qR2, qT2, 2), (qR3, qT3, 4), (qR4, qT4, 3), (qR5, qT5, 9), (qR6, qT6, 28)]
def im_sk : Nat → Nat → Bool := fun ci k => match ci with
  | 0 => match k with
    | 1 => true
    | _ => false
  | 1 => match k with
    | 3 => true
    | 4 => true
    | 5 => true
    | 6 => true
    | _ => false
  | 2 => match k with
    | 0 => true
    | _ => false
  | 3 => match k with
    | 1 => true
    | _ => false
  | 4 => match k with
    | 0 => true
    | _ => false
  | 5 => match k with
    | 1 => true
    | 2 => true
    | 3 => true
    | 4 => true
    | _ => false
  | _ => match k with
    | 2 => true
    | 3 => true
    | 4 => true
    | 5 => true
    | 7 => true
    | 8 => true
    | 9 => true
    | 10 => true
    | 11 => true
    | 12 => true
    | 14 => true
    | 15 => true
    | 16 => true
    | 19 => true
    | 20 => true
    | 21 => true
    | 22 => true
    | 24 => true
    | 26 => true
    | 27 => true
    | _ => false
theorem qD0 : ∀ j, j < 8 → defaultValue (qY0 j) = if im_sk 0 j = true then .null else .int 0 := by
  intro j hj
  match j, hj with
  | 0, _ => rfl
  | 1, _ => rfl
  | 2, _ => rfl
  | 3, _ => rfl
  | 4, _ => rfl
  | 5, _ => rfl
  | 6, _ => rfl
  | 7, _ => rfl
  | j + 8, h => exact absurd h (by omega)
theorem qD1 : ∀ j, j < 9 → defaultValue (qY1 j) = if im_sk 1 j = true then .null else .int 0 := by
  intro j hj
  match j, hj with
  | 0, _ => rfl
  | 1, _ => rfl
  | 2, _ => rfl
  | 3, _ => rfl
  | 4, _ => rfl
  | 5, _ => rfl
  | 6, _ => rfl
  | 7, _ => rfl
  | 8, _ => rfl
  | j + 9, h => exact absurd h (by omega)
theorem qD2 : ∀ j, j < 2 → defaultValue (qY2 j) = if im_sk 2 j = true then .null else .int 0 := by
  intro j hj
  match j, hj with
  | 0, _ => rfl
  | 1, _ => rfl
  | j + 2, h => exact absurd h (by omega)
theorem qD3 : ∀ j, j < 4 → defaultValue (qY3 j) = if im_sk 3 j = true then .null else .int 0 := by
  intro j hj
  match j, hj with
  | 0, _ => rfl
  | 1, _ => rfl
  | 2, _ => rfl
  | 3, _ => rfl
  | j + 4, h => exact absurd h (by omega)
theorem qD4 : ∀ j, j < 3 → defaultValue (qY4 j) = if im_sk 4 j = true then .null else .int 0 := by
  intro j hj
  match j, hj with
  | 0, _ => rfl
  | 1, _ => rfl
  | 2, _ => rfl
  | j + 3, h => exact absurd h (by omega)
theorem qD5 : ∀ j, j < 9 → defaultValue (qY5 j) = if im_sk 5 j = true then .null else .int 0 := by
  intro j hj
  match j, hj with
  | 0, _ => rfl
  | 1, _ => rfl
  | 2, _ => rfl
  | 3, _ => rfl
  | 4, _ => rfl
  | 5, _ => rfl
  | 6, _ => rfl
  | 7, _ => rfl
  | 8, _ => rfl
  | j + 9, h => exact absurd h (by omega)
theorem qD6 : ∀ j, j < 28 → defaultValue (qY6 j) = if im_sk 6 j = true then .null else .int 0 := by
  intro j hj
  match j, hj with
  | 0, _ => rfl
  | 1, _ => rfl
  | 2, _ => rfl
  | 3, _ => rfl
  | 4, _ => rfl
  | 5, _ => rfl
  | 6, _ => rfl
  | 7, _ => rfl
  | 8, _ => rfl
  | 9, _ => rfl
  | 10, _ => rfl
  | 11, _ => rfl
  | 12, _ => rfl
  | 13, _ => rfl
  | 14, _ => rfl
  | 15, _ => rfl
  | 16, _ => rfl
  | 17, _ => rfl
  | 18, _ => rfl
  | 19, _ => rfl
  | 20, _ => rfl
  | 21, _ => rfl
  | 22, _ => rfl
  | 23, _ => rfl
  | 24, _ => rfl
  | 25, _ => rfl
  | 26, _ => rfl
  | 27, _ => rfl
  | j + 28, h => exact absurd h (by omega)
abbrev cX5_init : ByteArray := prog_1_method_1_code
def yX5_init : MethodName := ⟨qR5, "<init>", "(I)V"⟩
theorem wcX5_init : Cond.code yX5_init cX5_init 2 none ∈ im_ws := im_m 33 (by decide +kernel) rfl
abbrev vX5_init : List Cond := Cond.code yX5_init cX5_init 2 none :: im_ws
theorem wiX5_init : Cond.instanceMethod yX5_init ∈ im_ws := im_m 32 (by decide +kernel) rfl
abbrev cX5_cls : ByteArray := prog_1_method_2_code
def yX5_cls : MethodName := ⟨qR5, "cls", "(IIZ)I"⟩
theorem wcX5_cls : Cond.code yX5_cls cX5_cls 5 (some .int) ∈ im_ws := im_m 96 (by decide +kernel) rfl
abbrev vX5_cls : List Cond := Cond.code yX5_cls cX5_cls 5 (some .int) :: im_ws
theorem wiX5_cls : Cond.instanceMethod yX5_cls ∈ im_ws := im_m 94 (by decide +kernel) rfl
theorem weX5_cls : Cond.selects qR5 yX5_cls yX5_cls ∈ im_ws := im_m 95 (by decide +kernel) rfl
abbrev cX5_insert : ByteArray := prog_1_method_3_code
def yX5_insert : MethodName := ⟨qR5, "insert", "(III)I"⟩
theorem wcX5_insert : Cond.code yX5_insert cX5_insert 6 (some .int) ∈ im_ws := im_m 141 (by decide +kernel) rfl
abbrev vX5_insert : List Cond := Cond.code yX5_insert cX5_insert 6 (some .int) :: im_ws
theorem wiX5_insert : Cond.instanceMethod yX5_insert ∈ im_ws := im_m 139 (by decide +kernel) rfl
theorem weX5_insert : Cond.selects qR5 yX5_insert yX5_insert ∈ im_ws := im_m 140 (by decide +kernel) rfl
abbrev cX5_mark : ByteArray := prog_1_method_4_code
def yX5_mark : MethodName := ⟨qR5, "mark", "(III)I"⟩
theorem wcX5_mark : Cond.code yX5_mark cX5_mark 5 (some .int) ∈ im_ws := im_m 195 (by decide +kernel) rfl
abbrev vX5_mark : List Cond := Cond.code yX5_mark cX5_mark 5 (some .int) :: im_ws
theorem wiX5_mark : Cond.instanceMethod yX5_mark ∈ im_ws := im_m 193 (by decide +kernel) rfl
theorem weX5_mark : Cond.selects qR5 yX5_mark yX5_mark ∈ im_ws := im_m 194 (by decide +kernel) rfl
abbrev cX5_close : ByteArray := prog_1_method_5_code
def yX5_close : MethodName := ⟨qR5, "close", "()I"⟩
theorem wcX5_close : Cond.code yX5_close cX5_close 1 (some .int) ∈ im_ws := im_m 203 (by decide +kernel) rfl
abbrev vX5_close : List Cond := Cond.code yX5_close cX5_close 1 (some .int) :: im_ws
theorem wiX5_close : Cond.instanceMethod yX5_close ∈ im_ws := im_m 201 (by decide +kernel) rfl
theorem weX5_close : Cond.selects qR5 yX5_close yX5_close ∈ im_ws := im_m 202 (by decide +kernel) rfl
abbrev cX5_flush : ByteArray := prog_1_method_6_code
def yX5_flush : MethodName := ⟨qR5, "flush", "()I"⟩
theorem wcX5_flush : Cond.code yX5_flush cX5_flush 3 (some .int) ∈ im_ws := im_m 301 (by decide +kernel) rfl
abbrev vX5_flush : List Cond := Cond.code yX5_flush cX5_flush 3 (some .int) :: im_ws
theorem wiX5_flush : Cond.instanceMethod yX5_flush ∈ im_ws := im_m 299 (by decide +kernel) rfl
theorem weX5_flush : Cond.selects qR5 yX5_flush yX5_flush ∈ im_ws := im_m 300 (by decide +kernel) rfl
abbrev cX5_cancel : ByteArray := prog_1_method_7_code
def yX5_cancel : MethodName := ⟨qR5, "cancel", "(I)I"⟩
theorem wcX5_cancel : Cond.code yX5_cancel cX5_cancel 3 (some .int) ∈ im_ws := im_m 305 (by decide +kernel) rfl
abbrev vX5_cancel : List Cond := Cond.code yX5_cancel cX5_cancel 3 (some .int) :: im_ws
theorem wiX5_cancel : Cond.instanceMethod yX5_cancel ∈ im_ws := im_m 303 (by decide +kernel) rfl
theorem weX5_cancel : Cond.selects qR5 yX5_cancel yX5_cancel ∈ im_ws := im_m 304 (by decide +kernel) rfl
abbrev cX5_placed : ByteArray := prog_1_method_8_code
def yX5_placed : MethodName := ⟨qR5, "placed", "(III)I"⟩
theorem wcX5_placed : Cond.code yX5_placed cX5_placed 6 (some .int) ∈ im_ws := im_m 317 (by decide +kernel) rfl
abbrev vX5_placed : List Cond := Cond.code yX5_placed cX5_placed 6 (some .int) :: im_ws
theorem wiX5_placed : Cond.instanceMethod yX5_placed ∈ im_ws := im_m 315 (by decide +kernel) rfl
theorem weX5_placed : Cond.selects qR5 yX5_placed yX5_placed ∈ im_ws := im_m 316 (by decide +kernel) rfl
abbrev cX5_about : ByteArray := prog_1_method_9_code
def yX5_about : MethodName := ⟨qR5, "about", "(II)I"⟩
theorem wcX5_about : Cond.code yX5_about cX5_about 4 (some .int) ∈ im_ws := im_m 330 (by decide +kernel) rfl
abbrev vX5_about : List Cond := Cond.code yX5_about cX5_about 4 (some .int) :: im_ws
theorem wiX5_about : Cond.instanceMethod yX5_about ∈ im_ws := im_m 328 (by decide +kernel) rfl
theorem weX5_about : Cond.selects qR5 yX5_about yX5_about ∈ im_ws := im_m 329 (by decide +kernel) rfl
abbrev cX5_held : ByteArray := prog_1_method_10_code
def yX5_held : MethodName := ⟨qR5, "held", "(I)I"⟩
theorem wcX5_held : Cond.code yX5_held cX5_held 2 (some .int) ∈ im_ws := im_m 334 (by decide +kernel) rfl
abbrev vX5_held : List Cond := Cond.code yX5_held cX5_held 2 (some .int) :: im_ws
theorem wiX5_held : Cond.instanceMethod yX5_held ∈ im_ws := im_m 332 (by decide +kernel) rfl
theorem weX5_held : Cond.selects qR5 yX5_held yX5_held ∈ im_ws := im_m 333 (by decide +kernel) rfl
abbrev cX5_used : ByteArray := prog_1_method_11_code
def yX5_used : MethodName := ⟨qR5, "used", "(II)I"⟩
theorem wcX5_used : Cond.code yX5_used cX5_used 5 (some .int) ∈ im_ws := im_m 343 (by decide +kernel) rfl
abbrev vX5_used : List Cond := Cond.code yX5_used cX5_used 5 (some .int) :: im_ws
theorem wiX5_used : Cond.instanceMethod yX5_used ∈ im_ws := im_m 341 (by decide +kernel) rfl
theorem weX5_used : Cond.selects qR5 yX5_used yX5_used ∈ im_ws := im_m 342 (by decide +kernel) rfl
abbrev cX5_seen : ByteArray := prog_1_method_12_code
def yX5_seen : MethodName := ⟨qR5, "seen", "(III)I"⟩
theorem wcX5_seen : Cond.code yX5_seen cX5_seen 5 (some .int) ∈ im_ws := im_m 347 (by decide +kernel) rfl
abbrev vX5_seen : List Cond := Cond.code yX5_seen cX5_seen 5 (some .int) :: im_ws
theorem wiX5_seen : Cond.instanceMethod yX5_seen ∈ im_ws := im_m 345 (by decide +kernel) rfl
theorem weX5_seen : Cond.selects qR5 yX5_seen yX5_seen ∈ im_ws := im_m 346 (by decide +kernel) rfl
abbrev cX5_count : ByteArray := prog_1_method_13_code
def yX5_count : MethodName := ⟨qR5, "count", "(I)I"⟩
theorem wcX5_count : Cond.code yX5_count cX5_count 2 (some .int) ∈ im_ws := im_m 364 (by decide +kernel) rfl
abbrev vX5_count : List Cond := Cond.code yX5_count cX5_count 2 (some .int) :: im_ws
theorem wiX5_count : Cond.instanceMethod yX5_count ∈ im_ws := im_m 362 (by decide +kernel) rfl
theorem weX5_count : Cond.selects qR5 yX5_count yX5_count ∈ im_ws := im_m 363 (by decide +kernel) rfl
abbrev cX5_isWithin : ByteArray := prog_1_method_14_code
def yX5_isWithin : MethodName := ⟨qR5, "isWithin", "(III)Z"⟩
theorem wcX5_isWithin : Cond.code yX5_isWithin cX5_isWithin 3 (some .boolean) ∈ im_ws := im_m 99 (by decide +kernel) rfl
abbrev vX5_isWithin : List Cond := Cond.code yX5_isWithin cX5_isWithin 3 (some .boolean) :: im_ws
theorem wtX5_isWithin : Cond.static yX5_isWithin ∈ im_ws := im_m 98 (by decide +kernel) rfl
abbrev cX5_isPage : ByteArray := prog_1_method_15_code
def yX5_isPage : MethodName := ⟨qR5, "isPage", "(I)Z"⟩
theorem wcX5_isPage : Cond.code yX5_isPage cX5_isPage 1 (some .boolean) ∈ im_ws := im_m 148 (by decide +kernel) rfl
abbrev vX5_isPage : List Cond := Cond.code yX5_isPage cX5_isPage 1 (some .boolean) :: im_ws
theorem wtX5_isPage : Cond.static yX5_isPage ∈ im_ws := im_m 147 (by decide +kernel) rfl
abbrev cX5_isClosed : ByteArray := prog_1_method_16_code
def yX5_isClosed : MethodName := ⟨qR5, "isClosed", "(I)Z"⟩
theorem wcX5_isClosed : Cond.code yX5_isClosed cX5_isClosed 2 (some .boolean) ∈ im_ws := im_m 152 (by decide +kernel) rfl
abbrev vX5_isClosed : List Cond := Cond.code yX5_isClosed cX5_isClosed 2 (some .boolean) :: im_ws
theorem wiX5_isClosed : Cond.instanceMethod yX5_isClosed ∈ im_ws := im_m 151 (by decide +kernel) rfl
theorem weX5_isClosed : Cond.selects qR5 yX5_isClosed yX5_isClosed ∈ im_ws := im_m 1 (by decide +kernel) rfl
abbrev cX5_kindAt : ByteArray := prog_1_method_17_code
def yX5_kindAt : MethodName := ⟨qR5, "kindAt", "(I)LInsertMarks$Kind;"⟩
theorem wcX5_kindAt : Cond.code yX5_kindAt cX5_kindAt 2 (some (.object "InsertMarks$Kind")) ∈ im_ws := im_m 145 (by decide +kernel) rfl
abbrev vX5_kindAt : List Cond := Cond.code yX5_kindAt cX5_kindAt 2 (some (.object "InsertMarks$Kind")) :: im_ws
theorem wiX5_kindAt : Cond.instanceMethod yX5_kindAt ∈ im_ws := im_m 144 (by decide +kernel) rfl
theorem weX5_kindAt : Cond.selects qR5 yX5_kindAt yX5_kindAt ∈ im_ws := im_m 0 (by decide +kernel) rfl
abbrev cX5_insertAt : ByteArray := prog_1_method_18_code
def yX5_insertAt : MethodName := ⟨qR5, "insertAt", "(I)LInsertMarks$Insert;"⟩
theorem wcX5_insertAt : Cond.code yX5_insertAt cX5_insertAt 2 (some (.object "InsertMarks$Insert")) ∈ im_ws := im_m 215 (by decide +kernel) rfl
abbrev vX5_insertAt : List Cond := Cond.code yX5_insertAt cX5_insertAt 2 (some (.object "InsertMarks$Insert")) :: im_ws
theorem wiX5_insertAt : Cond.instanceMethod yX5_insertAt ∈ im_ws := im_m 214 (by decide +kernel) rfl
theorem weX5_insertAt : Cond.selects qR5 yX5_insertAt yX5_insertAt ∈ im_ws := im_m 4 (by decide +kernel) rfl
abbrev cX5_closedPageAt : ByteArray := prog_1_method_19_code
def yX5_closedPageAt : MethodName := ⟨qR5, "closedPageAt", "(I)LInsertMarks$Page;"⟩
theorem wcX5_closedPageAt : Cond.code yX5_closedPageAt cX5_closedPageAt 2 (some (.object "InsertMarks$Page")) ∈ im_ws := im_m 321 (by decide +kernel) rfl
abbrev vX5_closedPageAt : List Cond := Cond.code yX5_closedPageAt cX5_closedPageAt 2 (some (.object "InsertMarks$Page")) :: im_ws
theorem wiX5_closedPageAt : Cond.instanceMethod yX5_closedPageAt ∈ im_ws := im_m 320 (by decide +kernel) rfl
theorem weX5_closedPageAt : Cond.selects qR5 yX5_closedPageAt yX5_closedPageAt ∈ im_ws := im_m 9 (by decide +kernel) rfl
abbrev cX5_closeNextPage : ByteArray := prog_1_method_20_code
def yX5_closeNextPage : MethodName := ⟨qR5, "closeNextPage", "()I"⟩
theorem wcX5_closeNextPage : Cond.code yX5_closeNextPage cX5_closeNextPage 2 (some .int) ∈ im_ws := im_m 207 (by decide +kernel) rfl
abbrev vX5_closeNextPage : List Cond := Cond.code yX5_closeNextPage cX5_closeNextPage 2 (some .int) :: im_ws
theorem wiX5_closeNextPage : Cond.instanceMethod yX5_closeNextPage ∈ im_ws := im_m 206 (by decide +kernel) rfl
theorem weX5_closeNextPage : Cond.selects qR5 yX5_closeNextPage yX5_closeNextPage ∈ im_ws := im_m 2 (by decide +kernel) rfl
abbrev cX5_goThroughLine : ByteArray := prog_1_method_21_code
def yX5_goThroughLine : MethodName := ⟨qR5, "goThroughLine", "(LInsertMarks$Page;)V"⟩
theorem wcX5_goThroughLine : Cond.code yX5_goThroughLine cX5_goThroughLine 6 none ∈ im_ws := im_m 255 (by decide +kernel) rfl
abbrev vX5_goThroughLine : List Cond := Cond.code yX5_goThroughLine cX5_goThroughLine 6 none :: im_ws
theorem wiX5_goThroughLine : Cond.instanceMethod yX5_goThroughLine ∈ im_ws := im_m 254 (by decide +kernel) rfl
theorem weX5_goThroughLine : Cond.selects qR5 yX5_goThroughLine yX5_goThroughLine ∈ im_ws := im_m 6 (by decide +kernel) rfl
abbrev cX5_lineUpInsertsOf : ByteArray := prog_1_method_22_code
def yX5_lineUpInsertsOf : MethodName := ⟨qR5, "lineUpInsertsOf", "(I)V"⟩
theorem wcX5_lineUpInsertsOf : Cond.code yX5_lineUpInsertsOf cX5_lineUpInsertsOf 4 none ∈ im_ws := im_m 211 (by decide +kernel) rfl
abbrev vX5_lineUpInsertsOf : List Cond := Cond.code yX5_lineUpInsertsOf cX5_lineUpInsertsOf 4 none :: im_ws
theorem wiX5_lineUpInsertsOf : Cond.instanceMethod yX5_lineUpInsertsOf ∈ im_ws := im_m 210 (by decide +kernel) rfl
theorem weX5_lineUpInsertsOf : Cond.selects qR5 yX5_lineUpInsertsOf yX5_lineUpInsertsOf ∈ im_ws := im_m 3 (by decide +kernel) rfl
abbrev cX5_startPageInKinds : ByteArray := prog_1_method_23_code
def yX5_startPageInKinds : MethodName := ⟨qR5, "startPageInKinds", "()V"⟩
theorem wcX5_startPageInKinds : Cond.code yX5_startPageInKinds cX5_startPageInKinds 3 none ∈ im_ws := im_m 223 (by decide +kernel) rfl
abbrev vX5_startPageInKinds : List Cond := Cond.code yX5_startPageInKinds cX5_startPageInKinds 3 none :: im_ws
theorem wiX5_startPageInKinds : Cond.instanceMethod yX5_startPageInKinds ∈ im_ws := im_m 222 (by decide +kernel) rfl
theorem weX5_startPageInKinds : Cond.selects qR5 yX5_startPageInKinds yX5_startPageInKinds ∈ im_ws := im_m 5 (by decide +kernel) rfl
abbrev cX5_goThrough : ByteArray := prog_1_method_24_code
def yX5_goThrough : MethodName := ⟨qR5, "goThrough", "(LInsertMarks$Page;LInsertMarks$Insert;)Z"⟩
theorem wcX5_goThrough : Cond.code yX5_goThrough cX5_goThrough 5 (some .boolean) ∈ im_ws := im_m 259 (by decide +kernel) rfl
abbrev vX5_goThrough : List Cond := Cond.code yX5_goThrough cX5_goThrough 5 (some .boolean) :: im_ws
theorem wiX5_goThrough : Cond.instanceMethod yX5_goThrough ∈ im_ws := im_m 258 (by decide +kernel) rfl
theorem weX5_goThrough : Cond.selects qR5 yX5_goThrough yX5_goThrough ∈ im_ws := im_m 7 (by decide +kernel) rfl
abbrev cX5_freeOn : ByteArray := prog_1_method_25_code
def yX5_freeOn : MethodName := ⟨qR5, "freeOn", "(LInsertMarks$Page;LInsertMarks$Kind;)I"⟩
theorem wcX5_freeOn : Cond.code yX5_freeOn cX5_freeOn 5 (some .int) ∈ im_ws := im_m 263 (by decide +kernel) rfl
abbrev vX5_freeOn : List Cond := Cond.code yX5_freeOn cX5_freeOn 5 (some .int) :: im_ws
theorem wiX5_freeOn : Cond.instanceMethod yX5_freeOn ∈ im_ws := im_m 262 (by decide +kernel) rfl
theorem weX5_freeOn : Cond.selects qR5 yX5_freeOn yX5_freeOn ∈ im_ws := im_m 8 (by decide +kernel) rfl
abbrev cX6_init : ByteArray := prog_8_method_1_code
def yX6_init : MethodName := ⟨qR6, "<init>", "(I)V"⟩
theorem wcX6_init : Cond.code yX6_init cX6_init 2 none ∈ im_ws := im_m 372 (by decide +kernel) rfl
abbrev vX6_init : List Cond := Cond.code yX6_init cX6_init 2 none :: im_ws
theorem wiX6_init : Cond.instanceMethod yX6_init ∈ im_ws := im_m 371 (by decide +kernel) rfl
abbrev cX6_in : ByteArray := prog_8_method_2_code
def yX6_in : MethodName := ⟨qR6, "in", "(III)Z"⟩
theorem wcX6_in : Cond.code yX6_in cX6_in 3 (some .boolean) ∈ im_ws := im_m 465 (by decide +kernel) rfl
abbrev vX6_in : List Cond := Cond.code yX6_in cX6_in 3 (some .boolean) :: im_ws
theorem wtX6_in : Cond.static yX6_in ∈ im_ws := im_m 464 (by decide +kernel) rfl
abbrev cX6_isClass : ByteArray := prog_8_method_3_code
def yX6_isClass : MethodName := ⟨qR6, "isClass", "(I)Z"⟩
theorem wcX6_isClass : Cond.code yX6_isClass cX6_isClass 2 (some .boolean) ∈ im_ws := im_m 473 (by decide +kernel) rfl
abbrev vX6_isClass : List Cond := Cond.code yX6_isClass cX6_isClass 2 (some .boolean) :: im_ws
theorem wiX6_isClass : Cond.instanceMethod yX6_isClass ∈ im_ws := im_m 472 (by decide +kernel) rfl
theorem weX6_isClass : Cond.selects qR6 yX6_isClass yX6_isClass ∈ im_ws := im_m 10 (by decide +kernel) rfl
abbrev cX6_cls : ByteArray := prog_8_method_4_code
def yX6_cls : MethodName := ⟨qR6, "cls", "(IIZ)I"⟩
theorem wcX6_cls : Cond.code yX6_cls cX6_cls 4 (some .int) ∈ im_ws := im_m 462 (by decide +kernel) rfl
abbrev vX6_cls : List Cond := Cond.code yX6_cls cX6_cls 4 (some .int) :: im_ws
theorem wiX6_cls : Cond.instanceMethod yX6_cls ∈ im_ws := im_m 460 (by decide +kernel) rfl
theorem weX6_cls : Cond.selects qR6 yX6_cls yX6_cls ∈ im_ws := im_m 461 (by decide +kernel) rfl
abbrev cX6_insert : ByteArray := prog_8_method_5_code
def yX6_insert : MethodName := ⟨qR6, "insert", "(III)I"⟩
theorem wcX6_insert : Cond.code yX6_insert cX6_insert 4 (some .int) ∈ im_ws := im_m 469 (by decide +kernel) rfl
abbrev vX6_insert : List Cond := Cond.code yX6_insert cX6_insert 4 (some .int) :: im_ws
theorem wiX6_insert : Cond.instanceMethod yX6_insert ∈ im_ws := im_m 467 (by decide +kernel) rfl
theorem weX6_insert : Cond.selects qR6 yX6_insert yX6_insert ∈ im_ws := im_m 468 (by decide +kernel) rfl
abbrev cX6_mark : ByteArray := prog_8_method_6_code
def yX6_mark : MethodName := ⟨qR6, "mark", "(III)I"⟩
theorem wcX6_mark : Cond.code yX6_mark cX6_mark 4 (some .int) ∈ im_ws := im_m 477 (by decide +kernel) rfl
abbrev vX6_mark : List Cond := Cond.code yX6_mark cX6_mark 4 (some .int) :: im_ws
theorem wiX6_mark : Cond.instanceMethod yX6_mark ∈ im_ws := im_m 475 (by decide +kernel) rfl
theorem weX6_mark : Cond.selects qR6 yX6_mark yX6_mark ∈ im_ws := im_m 476 (by decide +kernel) rfl
abbrev cX6_standing : ByteArray := prog_8_method_7_code
def yX6_standing : MethodName := ⟨qR6, "standing", "(II)I"⟩
theorem wcX6_standing : Cond.code yX6_standing cX6_standing 5 (some .int) ∈ im_ws := im_m 493 (by decide +kernel) rfl
abbrev vX6_standing : List Cond := Cond.code yX6_standing cX6_standing 5 (some .int) :: im_ws
theorem wiX6_standing : Cond.instanceMethod yX6_standing ∈ im_ws := im_m 492 (by decide +kernel) rfl
theorem weX6_standing : Cond.selects qR6 yX6_standing yX6_standing ∈ im_ws := im_m 13 (by decide +kernel) rfl
abbrev cX6_place : ByteArray := prog_8_method_8_code
def yX6_place : MethodName := ⟨qR6, "place", "(IIZ)V"⟩
theorem wcX6_place : Cond.code yX6_place cX6_place 5 none ∈ im_ws := im_m 497 (by decide +kernel) rfl
abbrev vX6_place : List Cond := Cond.code yX6_place cX6_place 5 none :: im_ws
theorem wiX6_place : Cond.instanceMethod yX6_place ∈ im_ws := im_m 496 (by decide +kernel) rfl
theorem weX6_place : Cond.selects qR6 yX6_place yX6_place ∈ im_ws := im_m 14 (by decide +kernel) rfl
abbrev cX6_go : ByteArray := prog_8_method_9_code
def yX6_go : MethodName := ⟨qR6, "go", "(I)V"⟩
theorem wcX6_go : Cond.code yX6_go cX6_go 6 none ∈ im_ws := im_m 489 (by decide +kernel) rfl
abbrev vX6_go : List Cond := Cond.code yX6_go cX6_go 6 none :: im_ws
theorem wiX6_go : Cond.instanceMethod yX6_go ∈ im_ws := im_m 488 (by decide +kernel) rfl
theorem weX6_go : Cond.selects qR6 yX6_go yX6_go ∈ im_ws := im_m 12 (by decide +kernel) rfl
abbrev cX6_waits : ByteArray := prog_8_method_10_code
def yX6_waits : MethodName := ⟨qR6, "waits", "(I)Z"⟩
theorem wcX6_waits : Cond.code yX6_waits cX6_waits 2 (some .boolean) ∈ im_ws := im_m 485 (by decide +kernel) rfl
abbrev vX6_waits : List Cond := Cond.code yX6_waits cX6_waits 2 (some .boolean) :: im_ws
theorem wiX6_waits : Cond.instanceMethod yX6_waits ∈ im_ws := im_m 484 (by decide +kernel) rfl
theorem weX6_waits : Cond.selects qR6 yX6_waits yX6_waits ∈ im_ws := im_m 11 (by decide +kernel) rfl
abbrev cX6_isIn : ByteArray := prog_8_method_11_code
def yX6_isIn : MethodName := ⟨qR6, "isIn", "(II)Z"⟩
theorem wcX6_isIn : Cond.code yX6_isIn cX6_isIn 5 (some .boolean) ∈ im_ws := im_m 501 (by decide +kernel) rfl
abbrev vX6_isIn : List Cond := Cond.code yX6_isIn cX6_isIn 5 (some .boolean) :: im_ws
theorem wiX6_isIn : Cond.instanceMethod yX6_isIn ∈ im_ws := im_m 500 (by decide +kernel) rfl
theorem weX6_isIn : Cond.selects qR6 yX6_isIn yX6_isIn ∈ im_ws := im_m 15 (by decide +kernel) rfl
abbrev cX6_close : ByteArray := prog_8_method_12_code
def yX6_close : MethodName := ⟨qR6, "close", "()I"⟩
theorem wcX6_close : Cond.code yX6_close cX6_close 4 (some .int) ∈ im_ws := im_m 481 (by decide +kernel) rfl
abbrev vX6_close : List Cond := Cond.code yX6_close cX6_close 4 (some .int) :: im_ws
theorem wiX6_close : Cond.instanceMethod yX6_close ∈ im_ws := im_m 479 (by decide +kernel) rfl
theorem weX6_close : Cond.selects qR6 yX6_close yX6_close ∈ im_ws := im_m 480 (by decide +kernel) rfl
abbrev cX6_heldAt : ByteArray := prog_8_method_13_code
def yX6_heldAt : MethodName := ⟨qR6, "heldAt", "(I)I"⟩
theorem wcX6_heldAt : Cond.code yX6_heldAt cX6_heldAt 5 (some .int) ∈ im_ws := im_m 509 (by decide +kernel) rfl
abbrev vX6_heldAt : List Cond := Cond.code yX6_heldAt cX6_heldAt 5 (some .int) :: im_ws
theorem wiX6_heldAt : Cond.instanceMethod yX6_heldAt ∈ im_ws := im_m 508 (by decide +kernel) rfl
theorem weX6_heldAt : Cond.selects qR6 yX6_heldAt yX6_heldAt ∈ im_ws := im_m 16 (by decide +kernel) rfl
abbrev cX6_flush : ByteArray := prog_8_method_14_code
def yX6_flush : MethodName := ⟨qR6, "flush", "()I"⟩
theorem wcX6_flush : Cond.code yX6_flush cX6_flush 3 (some .int) ∈ im_ws := im_m 505 (by decide +kernel) rfl
abbrev vX6_flush : List Cond := Cond.code yX6_flush cX6_flush 3 (some .int) :: im_ws
theorem wiX6_flush : Cond.instanceMethod yX6_flush ∈ im_ws := im_m 503 (by decide +kernel) rfl
theorem weX6_flush : Cond.selects qR6 yX6_flush yX6_flush ∈ im_ws := im_m 504 (by decide +kernel) rfl
abbrev cX6_cancel : ByteArray := prog_8_method_15_code
def yX6_cancel : MethodName := ⟨qR6, "cancel", "(I)I"⟩
theorem wcX6_cancel : Cond.code yX6_cancel cX6_cancel 2 (some .int) ∈ im_ws := im_m 514 (by decide +kernel) rfl
abbrev vX6_cancel : List Cond := Cond.code yX6_cancel cX6_cancel 2 (some .int) :: im_ws
theorem wiX6_cancel : Cond.instanceMethod yX6_cancel ∈ im_ws := im_m 512 (by decide +kernel) rfl
theorem weX6_cancel : Cond.selects qR6 yX6_cancel yX6_cancel ∈ im_ws := im_m 513 (by decide +kernel) rfl
abbrev cX6_partAt : ByteArray := prog_8_method_16_code
def yX6_partAt : MethodName := ⟨qR6, "partAt", "(II)I"⟩
theorem wcX6_partAt : Cond.code yX6_partAt cX6_partAt 5 (some .int) ∈ im_ws := im_m 522 (by decide +kernel) rfl
abbrev vX6_partAt : List Cond := Cond.code yX6_partAt cX6_partAt 5 (some .int) :: im_ws
theorem wiX6_partAt : Cond.instanceMethod yX6_partAt ∈ im_ws := im_m 521 (by decide +kernel) rfl
theorem weX6_partAt : Cond.selects qR6 yX6_partAt yX6_partAt ∈ im_ws := im_m 17 (by decide +kernel) rfl
abbrev cX6_placed : ByteArray := prog_8_method_17_code
def yX6_placed : MethodName := ⟨qR6, "placed", "(III)I"⟩
theorem wcX6_placed : Cond.code yX6_placed cX6_placed 5 (some .int) ∈ im_ws := im_m 518 (by decide +kernel) rfl
abbrev vX6_placed : List Cond := Cond.code yX6_placed cX6_placed 5 (some .int) :: im_ws
theorem wiX6_placed : Cond.instanceMethod yX6_placed ∈ im_ws := im_m 516 (by decide +kernel) rfl
theorem weX6_placed : Cond.selects qR6 yX6_placed yX6_placed ∈ im_ws := im_m 517 (by decide +kernel) rfl
abbrev cX6_about : ByteArray := prog_8_method_18_code
def yX6_about : MethodName := ⟨qR6, "about", "(II)I"⟩
theorem wcX6_about : Cond.code yX6_about cX6_about 6 (some .int) ∈ im_ws := im_m 526 (by decide +kernel) rfl
abbrev vX6_about : List Cond := Cond.code yX6_about cX6_about 6 (some .int) :: im_ws
theorem wiX6_about : Cond.instanceMethod yX6_about ∈ im_ws := im_m 524 (by decide +kernel) rfl
theorem weX6_about : Cond.selects qR6 yX6_about yX6_about ∈ im_ws := im_m 525 (by decide +kernel) rfl
abbrev cX6_held : ByteArray := prog_8_method_19_code
def yX6_held : MethodName := ⟨qR6, "held", "(I)I"⟩
theorem wcX6_held : Cond.code yX6_held cX6_held 2 (some .int) ∈ im_ws := im_m 530 (by decide +kernel) rfl
abbrev vX6_held : List Cond := Cond.code yX6_held cX6_held 2 (some .int) :: im_ws
theorem wiX6_held : Cond.instanceMethod yX6_held ∈ im_ws := im_m 528 (by decide +kernel) rfl
theorem weX6_held : Cond.selects qR6 yX6_held yX6_held ∈ im_ws := im_m 529 (by decide +kernel) rfl
abbrev cX6_used : ByteArray := prog_8_method_20_code
def yX6_used : MethodName := ⟨qR6, "used", "(II)I"⟩
theorem wcX6_used : Cond.code yX6_used cX6_used 3 (some .int) ∈ im_ws := im_m 534 (by decide +kernel) rfl
abbrev vX6_used : List Cond := Cond.code yX6_used cX6_used 3 (some .int) :: im_ws
theorem wiX6_used : Cond.instanceMethod yX6_used ∈ im_ws := im_m 532 (by decide +kernel) rfl
theorem weX6_used : Cond.selects qR6 yX6_used yX6_used ∈ im_ws := im_m 533 (by decide +kernel) rfl
abbrev cX6_markOn : ByteArray := prog_8_method_21_code
def yX6_markOn : MethodName := ⟨qR6, "markOn", "(IIZ)I"⟩
theorem wcX6_markOn : Cond.code yX6_markOn cX6_markOn 6 (some .int) ∈ im_ws := im_m 542 (by decide +kernel) rfl
abbrev vX6_markOn : List Cond := Cond.code yX6_markOn cX6_markOn 6 (some .int) :: im_ws
theorem wiX6_markOn : Cond.instanceMethod yX6_markOn ∈ im_ws := im_m 541 (by decide +kernel) rfl
theorem weX6_markOn : Cond.selects qR6 yX6_markOn yX6_markOn ∈ im_ws := im_m 18 (by decide +kernel) rfl
abbrev cX6_lastBefore : ByteArray := prog_8_method_22_code
def yX6_lastBefore : MethodName := ⟨qR6, "lastBefore", "(II)I"⟩
theorem wcX6_lastBefore : Cond.code yX6_lastBefore cX6_lastBefore 5 (some .int) ∈ im_ws := im_m 546 (by decide +kernel) rfl
abbrev vX6_lastBefore : List Cond := Cond.code yX6_lastBefore cX6_lastBefore 5 (some .int) :: im_ws
theorem wiX6_lastBefore : Cond.instanceMethod yX6_lastBefore ∈ im_ws := im_m 545 (by decide +kernel) rfl
theorem weX6_lastBefore : Cond.selects qR6 yX6_lastBefore yX6_lastBefore ∈ im_ws := im_m 19 (by decide +kernel) rfl
abbrev cX6_seen : ByteArray := prog_8_method_23_code
def yX6_seen : MethodName := ⟨qR6, "seen", "(III)I"⟩
theorem wcX6_seen : Cond.code yX6_seen cX6_seen 5 (some .int) ∈ im_ws := im_m 538 (by decide +kernel) rfl
abbrev vX6_seen : List Cond := Cond.code yX6_seen cX6_seen 5 (some .int) :: im_ws
theorem wiX6_seen : Cond.instanceMethod yX6_seen ∈ im_ws := im_m 536 (by decide +kernel) rfl
theorem weX6_seen : Cond.selects qR6 yX6_seen yX6_seen ∈ im_ws := im_m 537 (by decide +kernel) rfl
abbrev cX6_count : ByteArray := prog_8_method_24_code
def yX6_count : MethodName := ⟨qR6, "count", "(I)I"⟩
theorem wcX6_count : Cond.code yX6_count cX6_count 3 (some .int) ∈ im_ws := im_m 550 (by decide +kernel) rfl
abbrev vX6_count : List Cond := Cond.code yX6_count cX6_count 3 (some .int) :: im_ws
theorem wiX6_count : Cond.instanceMethod yX6_count ∈ im_ws := im_m 548 (by decide +kernel) rfl
theorem weX6_count : Cond.selects qR6 yX6_count yX6_count ∈ im_ws := im_m 549 (by decide +kernel) rfl
abbrev cX0_init : ByteArray := prog_2_method_1_code
def yX0_init : MethodName := ⟨qR0, "<init>", "(ILInsertMarks$Kind;II)V"⟩
theorem wcX0_init : Cond.code yX0_init cX0_init 5 none ∈ im_ws := im_m 156 (by decide +kernel) rfl
abbrev vX0_init : List Cond := Cond.code yX0_init cX0_init 5 none :: im_ws
theorem wiX0_init : Cond.instanceMethod yX0_init ∈ im_ws := im_m 155 (by decide +kernel) rfl
abbrev cX0_isTakenBack : ByteArray := prog_2_method_2_code
def yX0_isTakenBack : MethodName := ⟨qR0, "isTakenBack", "()Z"⟩
theorem wcX0_isTakenBack : Cond.code yX0_isTakenBack cX0_isTakenBack 1 (some .boolean) ∈ im_ws := im_m 309 (by decide +kernel) rfl
abbrev vX0_isTakenBack : List Cond := Cond.code yX0_isTakenBack cX0_isTakenBack 1 (some .boolean) :: im_ws
theorem wiX0_isTakenBack : Cond.instanceMethod yX0_isTakenBack ∈ im_ws := im_m 307 (by decide +kernel) rfl
theorem weX0_isTakenBack : Cond.selects qR0 yX0_isTakenBack yX0_isTakenBack ∈ im_ws := im_m 308 (by decide +kernel) rfl
abbrev cX0_addPart : ByteArray := prog_2_method_3_code
def yX0_addPart : MethodName := ⟨qR0, "addPart", "(II)V"⟩
theorem wcX0_addPart : Cond.code yX0_addPart cX0_addPart 3 none ∈ im_ws := im_m 271 (by decide +kernel) rfl
abbrev vX0_addPart : List Cond := Cond.code yX0_addPart cX0_addPart 3 none :: im_ws
theorem wiX0_addPart : Cond.instanceMethod yX0_addPart ∈ im_ws := im_m 269 (by decide +kernel) rfl
theorem weX0_addPart : Cond.selects qR0 yX0_addPart yX0_addPart ∈ im_ws := im_m 270 (by decide +kernel) rfl
abbrev cX1_init : ByteArray := prog_3_method_1_code
def yX1_init : MethodName := ⟨qR1, "<init>", "(IIZ)V"⟩
theorem wcX1_init : Cond.code yX1_init cX1_init 4 none ∈ im_ws := im_m 103 (by decide +kernel) rfl
abbrev vX1_init : List Cond := Cond.code yX1_init cX1_init 4 none :: im_ws
theorem wiX1_init : Cond.instanceMethod yX1_init ∈ im_ws := im_m 102 (by decide +kernel) rfl
abbrev cX1_startPage : ByteArray := prog_3_method_2_code
def yX1_startPage : MethodName := ⟨qR1, "startPage", "()V"⟩
theorem wcX1_startPage : Cond.code yX1_startPage cX1_startPage 1 none ∈ im_ws := im_m 227 (by decide +kernel) rfl
abbrev vX1_startPage : List Cond := Cond.code yX1_startPage cX1_startPage 1 none :: im_ws
theorem wiX1_startPage : Cond.instanceMethod yX1_startPage ∈ im_ws := im_m 225 (by decide +kernel) rfl
theorem weX1_startPage : Cond.selects qR1 yX1_startPage yX1_startPage ∈ im_ws := im_m 226 (by decide +kernel) rfl
abbrev cX1_mayCut : ByteArray := prog_3_method_3_code
def yX1_mayCut : MethodName := ⟨qR1, "mayCut", "(II)Z"⟩
theorem wcX1_mayCut : Cond.code yX1_mayCut cX1_mayCut 3 (some .boolean) ∈ im_ws := im_m 297 (by decide +kernel) rfl
abbrev vX1_mayCut : List Cond := Cond.code yX1_mayCut cX1_mayCut 3 (some .boolean) :: im_ws
theorem wiX1_mayCut : Cond.instanceMethod yX1_mayCut ∈ im_ws := im_m 295 (by decide +kernel) rfl
theorem weX1_mayCut : Cond.selects qR1 yX1_mayCut yX1_mayCut ∈ im_ws := im_m 296 (by decide +kernel) rfl
abbrev cX1_nextNumber : ByteArray := prog_3_method_4_code
def yX1_nextNumber : MethodName := ⟨qR1, "nextNumber", "()I"⟩
theorem wcX1_nextNumber : Cond.code yX1_nextNumber cX1_nextNumber 1 (some .int) ∈ im_ws := im_m 275 (by decide +kernel) rfl
abbrev vX1_nextNumber : List Cond := Cond.code yX1_nextNumber cX1_nextNumber 1 (some .int) :: im_ws
theorem wiX1_nextNumber : Cond.instanceMethod yX1_nextNumber ∈ im_ws := im_m 273 (by decide +kernel) rfl
theorem weX1_nextNumber : Cond.selects qR1 yX1_nextNumber yX1_nextNumber ∈ im_ws := im_m 274 (by decide +kernel) rfl
abbrev cX1_addMark : ByteArray := prog_3_method_5_code
def yX1_addMark : MethodName := ⟨qR1, "addMark", "(II)V"⟩
theorem wcX1_addMark : Cond.code yX1_addMark cX1_addMark 3 none ∈ im_ws := im_m 199 (by decide +kernel) rfl
abbrev vX1_addMark : List Cond := Cond.code yX1_addMark cX1_addMark 3 none :: im_ws
theorem wiX1_addMark : Cond.instanceMethod yX1_addMark ∈ im_ws := im_m 197 (by decide +kernel) rfl
theorem weX1_addMark : Cond.selects qR1 yX1_addMark yX1_addMark ∈ im_ws := im_m 198 (by decide +kernel) rfl
abbrev cX1_topMark : ByteArray := prog_3_method_6_code
def yX1_topMark : MethodName := ⟨qR1, "topMark", "(I)I"⟩
theorem wcX1_topMark : Cond.code yX1_topMark cX1_topMark 3 (some .int) ∈ im_ws := im_m 351 (by decide +kernel) rfl
abbrev vX1_topMark : List Cond := Cond.code yX1_topMark cX1_topMark 3 (some .int) :: im_ws
theorem wiX1_topMark : Cond.instanceMethod yX1_topMark ∈ im_ws := im_m 349 (by decide +kernel) rfl
theorem weX1_topMark : Cond.selects qR1 yX1_topMark yX1_topMark ∈ im_ws := im_m 350 (by decide +kernel) rfl
abbrev cX1_firstMark : ByteArray := prog_3_method_7_code
def yX1_firstMark : MethodName := ⟨qR1, "firstMark", "(I)I"⟩
theorem wcX1_firstMark : Cond.code yX1_firstMark cX1_firstMark 2 (some .int) ∈ im_ws := im_m 355 (by decide +kernel) rfl
abbrev vX1_firstMark : List Cond := Cond.code yX1_firstMark cX1_firstMark 2 (some .int) :: im_ws
theorem wiX1_firstMark : Cond.instanceMethod yX1_firstMark ∈ im_ws := im_m 353 (by decide +kernel) rfl
theorem weX1_firstMark : Cond.selects qR1 yX1_firstMark yX1_firstMark ∈ im_ws := im_m 354 (by decide +kernel) rfl
abbrev cX1_lastMark : ByteArray := prog_3_method_8_code
def yX1_lastMark : MethodName := ⟨qR1, "lastMark", "(I)I"⟩
theorem wcX1_lastMark : Cond.code yX1_lastMark cX1_lastMark 2 (some .int) ∈ im_ws := im_m 360 (by decide +kernel) rfl
abbrev vX1_lastMark : List Cond := Cond.code yX1_lastMark cX1_lastMark 2 (some .int) :: im_ws
theorem wiX1_lastMark : Cond.instanceMethod yX1_lastMark ∈ im_ws := im_m 358 (by decide +kernel) rfl
theorem weX1_lastMark : Cond.selects qR1 yX1_lastMark yX1_lastMark ∈ im_ws := im_m 359 (by decide +kernel) rfl
abbrev cX2_init : ByteArray := prog_4_method_1_code
def yX2_init : MethodName := ⟨qR2, "<init>", "()V"⟩
theorem wcX2_init : Cond.code yX2_init cX2_init 1 none ∈ im_ws := im_m 47 (by decide +kernel) rfl
abbrev vX2_init : List Cond := Cond.code yX2_init cX2_init 1 none :: im_ws
theorem wiX2_init : Cond.instanceMethod yX2_init ∈ im_ws := im_m 46 (by decide +kernel) rfl
abbrev cX2_append : ByteArray := prog_4_method_2_code
def yX2_append : MethodName := ⟨qR2, "append", "(I)V"⟩
theorem wcX2_append : Cond.code yX2_append cX2_append 2 none ∈ im_ws := im_m 219 (by decide +kernel) rfl
abbrev vX2_append : List Cond := Cond.code yX2_append cX2_append 2 none :: im_ws
theorem wiX2_append : Cond.instanceMethod yX2_append ∈ im_ws := im_m 217 (by decide +kernel) rfl
theorem weX2_append : Cond.selects qR2 yX2_append yX2_append ∈ im_ws := im_m 218 (by decide +kernel) rfl
abbrev cX2_indexAt : ByteArray := prog_4_method_3_code
def yX2_indexAt : MethodName := ⟨qR2, "indexAt", "(I)I"⟩
theorem wcX2_indexAt : Cond.code yX2_indexAt cX2_indexAt 2 (some .int) ∈ im_ws := im_m 338 (by decide +kernel) rfl
abbrev vX2_indexAt : List Cond := Cond.code yX2_indexAt cX2_indexAt 2 (some .int) :: im_ws
theorem wiX2_indexAt : Cond.instanceMethod yX2_indexAt ∈ im_ws := im_m 336 (by decide +kernel) rfl
theorem weX2_indexAt : Cond.selects qR2 yX2_indexAt yX2_indexAt ∈ im_ws := im_m 337 (by decide +kernel) rfl
abbrev cX2_takeOut : ByteArray := prog_4_method_4_code
def yX2_takeOut : MethodName := ⟨qR2, "takeOut", "(I)V"⟩
theorem wcX2_takeOut : Cond.code yX2_takeOut cX2_takeOut 4 none ∈ im_ws := im_m 313 (by decide +kernel) rfl
abbrev vX2_takeOut : List Cond := Cond.code yX2_takeOut cX2_takeOut 4 none :: im_ws
theorem wiX2_takeOut : Cond.instanceMethod yX2_takeOut ∈ im_ws := im_m 311 (by decide +kernel) rfl
theorem weX2_takeOut : Cond.selects qR2 yX2_takeOut yX2_takeOut ∈ im_ws := im_m 312 (by decide +kernel) rfl
abbrev cX3_init : ByteArray := prog_5_method_1_code
def yX3_init : MethodName := ⟨qR3, "<init>", "(II)V"⟩
theorem wcX3_init : Cond.code yX3_init cX3_init 3 none ∈ im_ws := im_m 231 (by decide +kernel) rfl
abbrev vX3_init : List Cond := Cond.code yX3_init cX3_init 3 none :: im_ws
theorem wiX3_init : Cond.instanceMethod yX3_init ∈ im_ws := im_m 230 (by decide +kernel) rfl
abbrev cX3_place : ByteArray := prog_5_method_2_code
def yX3_place : MethodName := ⟨qR3, "place", "(LInsertMarks$Insert;IZ)V"⟩
theorem wcX3_place : Cond.code yX3_place cX3_place 4 none ∈ im_ws := im_m 267 (by decide +kernel) rfl
abbrev vX3_place : List Cond := Cond.code yX3_place cX3_place 4 none :: im_ws
theorem wiX3_place : Cond.instanceMethod yX3_place ∈ im_ws := im_m 265 (by decide +kernel) rfl
theorem weX3_place : Cond.selects qR3 yX3_place yX3_place ∈ im_ws := im_m 266 (by decide +kernel) rfl
abbrev cX3_partAt : ByteArray := prog_5_method_3_code
def yX3_partAt : MethodName := ⟨qR3, "partAt", "(I)LInsertMarks$Part;"⟩
theorem wcX3_partAt : Cond.code yX3_partAt cX3_partAt 2 (some (.object "InsertMarks$Part")) ∈ im_ws := im_m 325 (by decide +kernel) rfl
abbrev vX3_partAt : List Cond := Cond.code yX3_partAt cX3_partAt 2 (some (.object "InsertMarks$Part")) :: im_ws
theorem wiX3_partAt : Cond.instanceMethod yX3_partAt ∈ im_ws := im_m 323 (by decide +kernel) rfl
theorem weX3_partAt : Cond.selects qR3 yX3_partAt yX3_partAt ∈ im_ws := im_m 324 (by decide +kernel) rfl
abbrev cX4_init : ByteArray := prog_6_method_1_code
def yX4_init : MethodName := ⟨qR4, "<init>", "(LInsertMarks$Insert;IZ)V"⟩
theorem wcX4_init : Cond.code yX4_init cX4_init 4 none ∈ im_ws := im_m 279 (by decide +kernel) rfl
abbrev vX4_init : List Cond := Cond.code yX4_init cX4_init 4 none :: im_ws
theorem wiX4_init : Cond.instanceMethod yX4_init ∈ im_ws := im_m 278 (by decide +kernel) rfl
abbrev cX7_cell : ByteArray := method_2_code
def yX7_cell : MethodName := ⟨"InsertMarksLaw", "cell", "([II)I"⟩
theorem wcX7_cell : Cond.code yX7_cell cX7_cell 2 (some .int) ∈ im_ws := im_m 367 (by decide +kernel) rfl
abbrev vX7_cell : List Cond := Cond.code yX7_cell cX7_cell 2 (some .int) :: im_ws
theorem wtX7_cell : Cond.static yX7_cell ∈ im_ws := im_m 366 (by decide +kernel) rfl
theorem wz7 : Cond.initialized "InsertMarksLaw" ∈ im_ws := im_m 20 (by decide +kernel) rfl
theorem wz5 : Cond.initialized qR5 ∈ im_ws := im_m 21 (by decide +kernel) rfl
theorem wz2 : Cond.initialized qR2 ∈ im_ws := im_m 22 (by decide +kernel) rfl
theorem wz_math : Cond.initialized "java/lang/Math" ∈ im_ws := im_m 23 (by decide +kernel) rfl
theorem wz6 : Cond.initialized qR6 ∈ im_ws := im_m 24 (by decide +kernel) rfl
theorem wz1 : Cond.initialized qR1 ∈ im_ws := im_m 25 (by decide +kernel) rfl
theorem wz0 : Cond.initialized qR0 ∈ im_ws := im_m 26 (by decide +kernel) rfl
theorem wz3 : Cond.initialized qR3 ∈ im_ws := im_m 27 (by decide +kernel) rfl
theorem wz4 : Cond.initialized qR4 ∈ im_ws := im_m 28 (by decide +kernel) rfl
theorem wl7_7 : Cond.classLink "InsertMarksLaw" 7 qR5 ∈ im_ws := im_m 29 (by decide +kernel) rfl
theorem wn5 : Cond.instantiable qR5 9 ∈ im_ws := im_m 30 (by decide +kernel) rfl
theorem wm7_15 : Cond.methodLink "InsertMarksLaw" 15 yX5_init ∈ im_ws := im_m 31 (by decide +kernel) rfl
theorem wm5_1 : Cond.methodLink qR5 1 objectInit ∈ im_ws := im_m 34 (by decide +kernel) rfl
-- instanceMethod ('java/lang/Object', '<init>', '()V') at 35
-- code ('java/lang/Object', '<init>', '()V') at 36
theorem wl5_9 : Cond.classLink qR5 9 qR1 ∈ im_ws := im_m 37 (by decide +kernel) rfl
theorem wl5_15 : Cond.classLink qR5 15 qR0 ∈ im_ws := im_m 39 (by decide +kernel) rfl
theorem wl5_21 : Cond.classLink qR5 21 qR3 ∈ im_ws := im_m 41 (by decide +kernel) rfl
theorem wl5_27 : Cond.classLink qR5 27 qR2 ∈ im_ws := im_m 43 (by decide +kernel) rfl
theorem wn2 : Cond.instantiable qR2 2 ∈ im_ws := im_m 44 (by decide +kernel) rfl
theorem wm2_3 : Cond.methodLink qR2 3 objectInit ∈ im_ws := im_m 48 (by decide +kernel) rfl
theorem wf2_9 : Cond.fieldLink qR2 9 "InsertMarks$Line" "row" "[I" ∈ im_ws := im_m 49 (by decide +kernel) rfl
theorem wf5_173 : Cond.fieldLink qR5 173 "InsertMarks$Line" "row" "[I" ∈ im_ws := im_m 50 (by decide +kernel) rfl
theorem wf2_15 : Cond.fieldLink qR2 15 "InsertMarks$Line" "length" "I" ∈ im_ws := im_m 51 (by decide +kernel) rfl
theorem wf5_88 : Cond.fieldLink qR5 88 "InsertMarks$Line" "length" "I" ∈ im_ws := im_m 52 (by decide +kernel) rfl
theorem wa_int : Cond.arrayClass .int ∈ im_ws := im_m 58 (by decide +kernel) rfl
theorem wm5_34 : Cond.methodLink qR5 34 Lib.Math.min.name ∈ im_ws := im_m 59 (by decide +kernel) rfl
-- static ('java/lang/Math', 'min', '(II)I') at 60
-- code ('java/lang/Math', 'min', '(II)I') at 61
theorem wm5_40 : Cond.methodLink qR5 40 Lib.Math.max.name ∈ im_ws := im_m 62 (by decide +kernel) rfl
-- static ('java/lang/Math', 'max', '(II)I') at 63
-- code ('java/lang/Math', 'max', '(II)I') at 64
theorem wf5_43 : Cond.fieldLink qR5 43 "InsertMarks" "pageRoom" "I" ∈ im_ws := im_m 65 (by decide +kernel) rfl
theorem wf5_11 : Cond.fieldLink qR5 11 "InsertMarks" "kinds" "[LInsertMarks$Kind;" ∈ im_ws := im_m 66 (by decide +kernel) rfl
theorem wf5_17 : Cond.fieldLink qR5 17 "InsertMarks" "inserts" "[LInsertMarks$Insert;" ∈ im_ws := im_m 67 (by decide +kernel) rfl
theorem wf5_23 : Cond.fieldLink qR5 23 "InsertMarks" "pages" "[LInsertMarks$Page;" ∈ im_ws := im_m 68 (by decide +kernel) rfl
theorem wf5_30 : Cond.fieldLink qR5 30 "InsertMarks" "line" "LInsertMarks$Line;" ∈ im_ws := im_m 69 (by decide +kernel) rfl
theorem wf5_51 : Cond.fieldLink qR5 51 "InsertMarks" "kindCount" "I" ∈ im_ws := im_m 70 (by decide +kernel) rfl
theorem wf5_68 : Cond.fieldLink qR5 68 "InsertMarks" "insertCount" "I" ∈ im_ws := im_m 71 (by decide +kernel) rfl
theorem wf5_74 : Cond.fieldLink qR5 74 "InsertMarks" "markCount" "I" ∈ im_ws := im_m 72 (by decide +kernel) rfl
theorem wf5_81 : Cond.fieldLink qR5 81 "InsertMarks" "closedCount" "I" ∈ im_ws := im_m 73 (by decide +kernel) rfl
theorem wm7_21 : Cond.methodLink "InsertMarksLaw" 21 yX5_cls ∈ im_ws := im_m 93 (by decide +kernel) rfl
theorem wm5_47 : Cond.methodLink qR5 47 yX5_isWithin ∈ im_ws := im_m 97 (by decide +kernel) rfl
theorem wn1 : Cond.instantiable qR1 9 ∈ im_ws := im_m 100 (by decide +kernel) rfl
theorem wm5_54 : Cond.methodLink qR5 54 yX1_init ∈ im_ws := im_m 101 (by decide +kernel) rfl
theorem wm1_3 : Cond.methodLink qR1 3 objectInit ∈ im_ws := im_m 104 (by decide +kernel) rfl
theorem wf1_25 : Cond.fieldLink qR1 25 "InsertMarks$Kind" "room" "I" ∈ im_ws := im_m 105 (by decide +kernel) rfl
theorem wf5_208 : Cond.fieldLink qR5 208 "InsertMarks$Kind" "room" "I" ∈ im_ws := im_m 106 (by decide +kernel) rfl
theorem wf1_29 : Cond.fieldLink qR1 29 "InsertMarks$Kind" "least" "I" ∈ im_ws := im_m 107 (by decide +kernel) rfl
theorem wf1_32 : Cond.fieldLink qR1 32 "InsertMarks$Kind" "anew" "Z" ∈ im_ws := im_m 108 (by decide +kernel) rfl
theorem wf1_9 : Cond.fieldLink qR1 9 "InsertMarks$Kind" "sizeOn" "[I" ∈ im_ws := im_m 109 (by decide +kernel) rfl
theorem wf3_44 : Cond.fieldLink qR3 44 "InsertMarks$Kind" "sizeOn" "[I" ∈ im_ws := im_m 110 (by decide +kernel) rfl
theorem wf5_146 : Cond.fieldLink qR5 146 "InsertMarks$Kind" "sizeOn" "[I" ∈ im_ws := im_m 111 (by decide +kernel) rfl
theorem wf1_15 : Cond.fieldLink qR1 15 "InsertMarks$Kind" "hasMark" "[Z" ∈ im_ws := im_m 112 (by decide +kernel) rfl
theorem wf1_19 : Cond.fieldLink qR1 19 "InsertMarks$Kind" "firstTold" "[I" ∈ im_ws := im_m 113 (by decide +kernel) rfl
theorem wf1_22 : Cond.fieldLink qR1 22 "InsertMarks$Kind" "lastTold" "[I" ∈ im_ws := im_m 114 (by decide +kernel) rfl
theorem wf1_39 : Cond.fieldLink qR1 39 "InsertMarks$Kind" "latestNumber" "I" ∈ im_ws := im_m 115 (by decide +kernel) rfl
theorem wf1_36 : Cond.fieldLink qR1 36 "InsertMarks$Kind" "holds" "Z" ∈ im_ws := im_m 116 (by decide +kernel) rfl
theorem wf5_193 : Cond.fieldLink qR5 193 "InsertMarks$Kind" "holds" "Z" ∈ im_ws := im_m 117 (by decide +kernel) rfl
theorem wa_boolean : Cond.arrayClass .boolean ∈ im_ws := im_m 137 (by decide +kernel) rfl
theorem wm7_26 : Cond.methodLink "InsertMarksLaw" 26 yX5_insert ∈ im_ws := im_m 138 (by decide +kernel) rfl
theorem wm5_57 : Cond.methodLink qR5 57 yX5_kindAt ∈ im_ws := im_m 142 (by decide +kernel) rfl
theorem wm5_61 : Cond.methodLink qR5 61 yX5_isPage ∈ im_ws := im_m 146 (by decide +kernel) rfl
theorem wm5_65 : Cond.methodLink qR5 65 yX5_isClosed ∈ im_ws := im_m 149 (by decide +kernel) rfl
theorem wn0 : Cond.instantiable qR0 8 ∈ im_ws := im_m 153 (by decide +kernel) rfl
theorem wm5_71 : Cond.methodLink qR5 71 yX0_init ∈ im_ws := im_m 154 (by decide +kernel) rfl
theorem wm0_3 : Cond.methodLink qR0 3 objectInit ∈ im_ws := im_m 157 (by decide +kernel) rfl
theorem wf0_21 : Cond.fieldLink qR0 21 "InsertMarks$Insert" "index" "I" ∈ im_ws := im_m 158 (by decide +kernel) rfl
theorem wf5_123 : Cond.fieldLink qR5 123 "InsertMarks$Insert" "index" "I" ∈ im_ws := im_m 159 (by decide +kernel) rfl
theorem wf0_24 : Cond.fieldLink qR0 24 "InsertMarks$Insert" "kind" "LInsertMarks$Kind;" ∈ im_ws := im_m 160 (by decide +kernel) rfl
theorem wf3_40 : Cond.fieldLink qR3 40 "InsertMarks$Insert" "kind" "LInsertMarks$Kind;" ∈ im_ws := im_m 161 (by decide +kernel) rfl
theorem wf5_189 : Cond.fieldLink qR5 189 "InsertMarks$Insert" "kind" "LInsertMarks$Kind;" ∈ im_ws := im_m 162 (by decide +kernel) rfl
theorem wf0_28 : Cond.fieldLink qR0 28 "InsertMarks$Insert" "page" "I" ∈ im_ws := im_m 163 (by decide +kernel) rfl
theorem wf5_183 : Cond.fieldLink qR5 183 "InsertMarks$Insert" "page" "I" ∈ im_ws := im_m 164 (by decide +kernel) rfl
theorem wf0_31 : Cond.fieldLink qR0 31 "InsertMarks$Insert" "rest" "I" ∈ im_ws := im_m 165 (by decide +kernel) rfl
theorem wf5_102 : Cond.fieldLink qR5 102 "InsertMarks$Insert" "rest" "I" ∈ im_ws := im_m 166 (by decide +kernel) rfl
theorem wf0_9 : Cond.fieldLink qR0 9 "InsertMarks$Insert" "number" "I" ∈ im_ws := im_m 167 (by decide +kernel) rfl
theorem wf5_129 : Cond.fieldLink qR5 129 "InsertMarks$Insert" "number" "I" ∈ im_ws := im_m 168 (by decide +kernel) rfl
theorem wf0_15 : Cond.fieldLink qR0 15 "InsertMarks$Insert" "firstPage" "I" ∈ im_ws := im_m 169 (by decide +kernel) rfl
theorem wf5_136 : Cond.fieldLink qR5 136 "InsertMarks$Insert" "firstPage" "I" ∈ im_ws := im_m 170 (by decide +kernel) rfl
theorem wf0_18 : Cond.fieldLink qR0 18 "InsertMarks$Insert" "latestPage" "I" ∈ im_ws := im_m 171 (by decide +kernel) rfl
theorem wf5_139 : Cond.fieldLink qR5 139 "InsertMarks$Insert" "latestPage" "I" ∈ im_ws := im_m 172 (by decide +kernel) rfl
theorem wf0_34 : Cond.fieldLink qR0 34 "InsertMarks$Insert" "partCount" "I" ∈ im_ws := im_m 173 (by decide +kernel) rfl
theorem wf5_95 : Cond.fieldLink qR5 95 "InsertMarks$Insert" "partCount" "I" ∈ im_ws := im_m 174 (by decide +kernel) rfl
theorem wm7_31 : Cond.methodLink "InsertMarksLaw" 31 yX5_mark ∈ im_ws := im_m 192 (by decide +kernel) rfl
theorem wm5_77 : Cond.methodLink qR5 77 yX1_addMark ∈ im_ws := im_m 196 (by decide +kernel) rfl
theorem wm7_35 : Cond.methodLink "InsertMarksLaw" 35 yX5_close ∈ im_ws := im_m 200 (by decide +kernel) rfl
theorem wm5_84 : Cond.methodLink qR5 84 yX5_closeNextPage ∈ im_ws := im_m 204 (by decide +kernel) rfl
theorem wm5_160 : Cond.methodLink qR5 160 yX5_lineUpInsertsOf ∈ im_ws := im_m 208 (by decide +kernel) rfl
theorem wm5_91 : Cond.methodLink qR5 91 yX5_insertAt ∈ im_ws := im_m 212 (by decide +kernel) rfl
theorem wm5_180 : Cond.methodLink qR5 180 yX2_append ∈ im_ws := im_m 216 (by decide +kernel) rfl
theorem wm5_163 : Cond.methodLink qR5 163 yX5_startPageInKinds ∈ im_ws := im_m 220 (by decide +kernel) rfl
theorem wm5_186 : Cond.methodLink qR5 186 yX1_startPage ∈ im_ws := im_m 224 (by decide +kernel) rfl
theorem wn3 : Cond.instantiable qR3 4 ∈ im_ws := im_m 228 (by decide +kernel) rfl
theorem wm5_166 : Cond.methodLink qR5 166 yX3_init ∈ im_ws := im_m 229 (by decide +kernel) rfl
theorem wm3_1 : Cond.methodLink qR3 1 objectInit ∈ im_ws := im_m 232 (by decide +kernel) rfl
theorem wm3_13 : Cond.methodLink qR3 13 Lib.Math.max.name ∈ im_ws := im_m 233 (by decide +kernel) rfl
theorem wl3_19 : Cond.classLink qR3 19 qR4 ∈ im_ws := im_m 234 (by decide +kernel) rfl
theorem wf3_7 : Cond.fieldLink qR3 7 "InsertMarks$Page" "number" "I" ∈ im_ws := im_m 236 (by decide +kernel) rfl
theorem wf5_211 : Cond.fieldLink qR5 211 "InsertMarks$Page" "number" "I" ∈ im_ws := im_m 237 (by decide +kernel) rfl
theorem wf3_21 : Cond.fieldLink qR3 21 "InsertMarks$Page" "parts" "[LInsertMarks$Part;" ∈ im_ws := im_m 238 (by decide +kernel) rfl
theorem wf3_25 : Cond.fieldLink qR3 25 "InsertMarks$Page" "partCount" "I" ∈ im_ws := im_m 239 (by decide +kernel) rfl
theorem wf5_172 : Cond.fieldLink qR5 172 "InsertMarks$Page" "partCount" "I" ∈ im_ws := im_m 240 (by decide +kernel) rfl
theorem wf3_37 : Cond.fieldLink qR3 37 "InsertMarks$Page" "size" "I" ∈ im_ws := im_m 241 (by decide +kernel) rfl
theorem wf5_150 : Cond.fieldLink qR5 150 "InsertMarks$Page" "size" "I" ∈ im_ws := im_m 242 (by decide +kernel) rfl
theorem wm5_168 : Cond.methodLink qR5 168 yX5_goThroughLine ∈ im_ws := im_m 252 (by decide +kernel) rfl
theorem wm5_176 : Cond.methodLink qR5 176 yX5_goThrough ∈ im_ws := im_m 256 (by decide +kernel) rfl
theorem wm5_196 : Cond.methodLink qR5 196 yX5_freeOn ∈ im_ws := im_m 260 (by decide +kernel) rfl
theorem wm5_200 : Cond.methodLink qR5 200 yX3_place ∈ im_ws := im_m 264 (by decide +kernel) rfl
theorem wm3_28 : Cond.methodLink qR3 28 yX0_addPart ∈ im_ws := im_m 268 (by decide +kernel) rfl
theorem wm0_37 : Cond.methodLink qR0 37 yX1_nextNumber ∈ im_ws := im_m 272 (by decide +kernel) rfl
theorem wn4 : Cond.instantiable qR4 3 ∈ im_ws := im_m 276 (by decide +kernel) rfl
theorem wm3_34 : Cond.methodLink qR3 34 yX4_init ∈ im_ws := im_m 277 (by decide +kernel) rfl
theorem wm4_1 : Cond.methodLink qR4 1 objectInit ∈ im_ws := im_m 280 (by decide +kernel) rfl
theorem wf4_7 : Cond.fieldLink qR4 7 "InsertMarks$Part" "owner" "LInsertMarks$Insert;" ∈ im_ws := im_m 281 (by decide +kernel) rfl
theorem wf5_117 : Cond.fieldLink qR5 117 "InsertMarks$Part" "owner" "LInsertMarks$Insert;" ∈ im_ws := im_m 282 (by decide +kernel) rfl
theorem wf4_13 : Cond.fieldLink qR4 13 "InsertMarks$Part" "size" "I" ∈ im_ws := im_m 283 (by decide +kernel) rfl
theorem wf5_126 : Cond.fieldLink qR5 126 "InsertMarks$Part" "size" "I" ∈ im_ws := im_m 284 (by decide +kernel) rfl
theorem wf4_17 : Cond.fieldLink qR4 17 "InsertMarks$Part" "over" "Z" ∈ im_ws := im_m 285 (by decide +kernel) rfl
theorem wf5_132 : Cond.fieldLink qR5 132 "InsertMarks$Part" "over" "Z" ∈ im_ws := im_m 286 (by decide +kernel) rfl
theorem wm5_204 : Cond.methodLink qR5 204 yX1_mayCut ∈ im_ws := im_m 294 (by decide +kernel) rfl
theorem wm7_40 : Cond.methodLink "InsertMarksLaw" 40 yX5_flush ∈ im_ws := im_m 298 (by decide +kernel) rfl
theorem wm7_44 : Cond.methodLink "InsertMarksLaw" 44 yX5_cancel ∈ im_ws := im_m 302 (by decide +kernel) rfl
theorem wm5_98 : Cond.methodLink qR5 98 yX0_isTakenBack ∈ im_ws := im_m 306 (by decide +kernel) rfl
theorem wm5_105 : Cond.methodLink qR5 105 yX2_takeOut ∈ im_ws := im_m 310 (by decide +kernel) rfl
theorem wm7_49 : Cond.methodLink "InsertMarksLaw" 49 yX5_placed ∈ im_ws := im_m 314 (by decide +kernel) rfl
theorem wm5_109 : Cond.methodLink qR5 109 yX5_closedPageAt ∈ im_ws := im_m 318 (by decide +kernel) rfl
theorem wm5_113 : Cond.methodLink qR5 113 yX3_partAt ∈ im_ws := im_m 322 (by decide +kernel) rfl
theorem wm7_53 : Cond.methodLink "InsertMarksLaw" 53 yX5_about ∈ im_ws := im_m 327 (by decide +kernel) rfl
theorem wm7_58 : Cond.methodLink "InsertMarksLaw" 58 yX5_held ∈ im_ws := im_m 331 (by decide +kernel) rfl
theorem wm5_142 : Cond.methodLink qR5 142 yX2_indexAt ∈ im_ws := im_m 335 (by decide +kernel) rfl
theorem wm7_62 : Cond.methodLink "InsertMarksLaw" 62 yX5_used ∈ im_ws := im_m 340 (by decide +kernel) rfl
theorem wm7_66 : Cond.methodLink "InsertMarksLaw" 66 yX5_seen ∈ im_ws := im_m 344 (by decide +kernel) rfl
theorem wm5_151 : Cond.methodLink qR5 151 yX1_topMark ∈ im_ws := im_m 348 (by decide +kernel) rfl
theorem wm5_154 : Cond.methodLink qR5 154 yX1_firstMark ∈ im_ws := im_m 352 (by decide +kernel) rfl
theorem wm1_42 : Cond.methodLink qR1 42 yX1_topMark ∈ im_ws := im_m 356 (by decide +kernel) rfl
theorem wm5_157 : Cond.methodLink qR5 157 yX1_lastMark ∈ im_ws := im_m 357 (by decide +kernel) rfl
theorem wm7_70 : Cond.methodLink "InsertMarksLaw" 70 yX5_count ∈ im_ws := im_m 361 (by decide +kernel) rfl
theorem wm7_9 : Cond.methodLink "InsertMarksLaw" 9 yX7_cell ∈ im_ws := im_m 365 (by decide +kernel) rfl
theorem wl7_18 : Cond.classLink "InsertMarksLaw" 18 qR6 ∈ im_ws := im_m 368 (by decide +kernel) rfl
theorem wn6 : Cond.instantiable qR6 28 ∈ im_ws := im_m 369 (by decide +kernel) rfl
theorem wm7_20 : Cond.methodLink "InsertMarksLaw" 20 yX6_init ∈ im_ws := im_m 370 (by decide +kernel) rfl
theorem wm6_1 : Cond.methodLink qR6 1 objectInit ∈ im_ws := im_m 373 (by decide +kernel) rfl
theorem wf6_71 : Cond.fieldLink qR6 71 "InsertMarksModel" "room" "I" ∈ im_ws := im_m 374 (by decide +kernel) rfl
theorem wf6_75 : Cond.fieldLink qR6 75 "InsertMarksModel" "classes" "I" ∈ im_ws := im_m 375 (by decide +kernel) rfl
theorem wf6_7 : Cond.fieldLink qR6 7 "InsertMarksModel" "rooms" "[I" ∈ im_ws := im_m 376 (by decide +kernel) rfl
theorem wf6_13 : Cond.fieldLink qR6 13 "InsertMarksModel" "leasts" "[I" ∈ im_ws := im_m 377 (by decide +kernel) rfl
theorem wf6_16 : Cond.fieldLink qR6 16 "InsertMarksModel" "anew" "[Z" ∈ im_ws := im_m 378 (by decide +kernel) rfl
theorem wf6_20 : Cond.fieldLink qR6 20 "InsertMarksModel" "last" "[I" ∈ im_ws := im_m 379 (by decide +kernel) rfl
theorem wf6_89 : Cond.fieldLink qR6 89 "InsertMarksModel" "inserts" "I" ∈ im_ws := im_m 380 (by decide +kernel) rfl
theorem wf6_23 : Cond.fieldLink qR6 23 "InsertMarksModel" "classOf" "[I" ∈ im_ws := im_m 381 (by decide +kernel) rfl
theorem wf6_26 : Cond.fieldLink qR6 26 "InsertMarksModel" "rest" "[I" ∈ im_ws := im_m 382 (by decide +kernel) rfl
theorem wf6_29 : Cond.fieldLink qR6 29 "InsertMarksModel" "pageOf" "[I" ∈ im_ws := im_m 383 (by decide +kernel) rfl
theorem wf6_32 : Cond.fieldLink qR6 32 "InsertMarksModel" "numbers" "[I" ∈ im_ws := im_m 384 (by decide +kernel) rfl
theorem wf6_35 : Cond.fieldLink qR6 35 "InsertMarksModel" "gone" "[Z" ∈ im_ws := im_m 385 (by decide +kernel) rfl
theorem wf6_38 : Cond.fieldLink qR6 38 "InsertMarksModel" "partsOf" "[I" ∈ im_ws := im_m 386 (by decide +kernel) rfl
theorem wf6_92 : Cond.fieldLink qR6 92 "InsertMarksModel" "marks" "I" ∈ im_ws := im_m 387 (by decide +kernel) rfl
theorem wf6_41 : Cond.fieldLink qR6 41 "InsertMarksModel" "markClass" "[I" ∈ im_ws := im_m 388 (by decide +kernel) rfl
theorem wf6_44 : Cond.fieldLink qR6 44 "InsertMarksModel" "markPage" "[I" ∈ im_ws := im_m 389 (by decide +kernel) rfl
theorem wf6_47 : Cond.fieldLink qR6 47 "InsertMarksModel" "markValue" "[I" ∈ im_ws := im_m 390 (by decide +kernel) rfl
theorem wf6_86 : Cond.fieldLink qR6 86 "InsertMarksModel" "closed" "I" ∈ im_ws := im_m 391 (by decide +kernel) rfl
theorem wf6_95 : Cond.fieldLink qR6 95 "InsertMarksModel" "parts" "I" ∈ im_ws := im_m 392 (by decide +kernel) rfl
theorem wf6_50 : Cond.fieldLink qR6 50 "InsertMarksModel" "partPage" "[I" ∈ im_ws := im_m 393 (by decide +kernel) rfl
theorem wf6_53 : Cond.fieldLink qR6 53 "InsertMarksModel" "partInsert" "[I" ∈ im_ws := im_m 394 (by decide +kernel) rfl
theorem wf6_56 : Cond.fieldLink qR6 56 "InsertMarksModel" "partSize" "[I" ∈ im_ws := im_m 395 (by decide +kernel) rfl
theorem wf6_59 : Cond.fieldLink qR6 59 "InsertMarksModel" "partOver" "[Z" ∈ im_ws := im_m 396 (by decide +kernel) rfl
theorem wf6_109 : Cond.fieldLink qR6 109 "InsertMarksModel" "before" "I" ∈ im_ws := im_m 397 (by decide +kernel) rfl
theorem wf6_62 : Cond.fieldLink qR6 62 "InsertMarksModel" "order" "[I" ∈ im_ws := im_m 398 (by decide +kernel) rfl
theorem wf6_98 : Cond.fieldLink qR6 98 "InsertMarksModel" "now" "I" ∈ im_ws := im_m 399 (by decide +kernel) rfl
theorem wf6_65 : Cond.fieldLink qR6 65 "InsertMarksModel" "next" "[I" ∈ im_ws := im_m 400 (by decide +kernel) rfl
theorem wf6_68 : Cond.fieldLink qR6 68 "InsertMarksModel" "stops" "[Z" ∈ im_ws := im_m 401 (by decide +kernel) rfl
theorem wm7_25 : Cond.methodLink "InsertMarksLaw" 25 yX6_cls ∈ im_ws := im_m 459 (by decide +kernel) rfl
theorem wm6_78 : Cond.methodLink qR6 78 yX6_in ∈ im_ws := im_m 463 (by decide +kernel) rfl
theorem wm7_30 : Cond.methodLink "InsertMarksLaw" 30 yX6_insert ∈ im_ws := im_m 466 (by decide +kernel) rfl
theorem wm6_82 : Cond.methodLink qR6 82 yX6_isClass ∈ im_ws := im_m 470 (by decide +kernel) rfl
theorem wm7_34 : Cond.methodLink "InsertMarksLaw" 34 yX6_mark ∈ im_ws := im_m 474 (by decide +kernel) rfl
theorem wm7_39 : Cond.methodLink "InsertMarksLaw" 39 yX6_close ∈ im_ws := im_m 478 (by decide +kernel) rfl
theorem wm6_112 : Cond.methodLink qR6 112 yX6_waits ∈ im_ws := im_m 482 (by decide +kernel) rfl
theorem wm6_115 : Cond.methodLink qR6 115 yX6_go ∈ im_ws := im_m 486 (by decide +kernel) rfl
theorem wm6_101 : Cond.methodLink qR6 101 yX6_standing ∈ im_ws := im_m 490 (by decide +kernel) rfl
theorem wm6_105 : Cond.methodLink qR6 105 yX6_place ∈ im_ws := im_m 494 (by decide +kernel) rfl
theorem wm6_119 : Cond.methodLink qR6 119 yX6_isIn ∈ im_ws := im_m 498 (by decide +kernel) rfl
theorem wm7_43 : Cond.methodLink "InsertMarksLaw" 43 yX6_flush ∈ im_ws := im_m 502 (by decide +kernel) rfl
theorem wm6_123 : Cond.methodLink qR6 123 yX6_heldAt ∈ im_ws := im_m 506 (by decide +kernel) rfl
theorem wm6_127 : Cond.methodLink qR6 127 yX6_close ∈ im_ws := im_m 510 (by decide +kernel) rfl
theorem wm7_48 : Cond.methodLink "InsertMarksLaw" 48 yX6_cancel ∈ im_ws := im_m 511 (by decide +kernel) rfl
theorem wm7_52 : Cond.methodLink "InsertMarksLaw" 52 yX6_placed ∈ im_ws := im_m 515 (by decide +kernel) rfl
theorem wm6_131 : Cond.methodLink qR6 131 yX6_partAt ∈ im_ws := im_m 519 (by decide +kernel) rfl
theorem wm7_57 : Cond.methodLink "InsertMarksLaw" 57 yX6_about ∈ im_ws := im_m 523 (by decide +kernel) rfl
theorem wm7_61 : Cond.methodLink "InsertMarksLaw" 61 yX6_held ∈ im_ws := im_m 527 (by decide +kernel) rfl
theorem wm7_65 : Cond.methodLink "InsertMarksLaw" 65 yX6_used ∈ im_ws := im_m 531 (by decide +kernel) rfl
theorem wm7_69 : Cond.methodLink "InsertMarksLaw" 69 yX6_seen ∈ im_ws := im_m 535 (by decide +kernel) rfl
theorem wm6_134 : Cond.methodLink qR6 134 yX6_markOn ∈ im_ws := im_m 539 (by decide +kernel) rfl
theorem wm6_138 : Cond.methodLink qR6 138 yX6_lastBefore ∈ im_ws := im_m 543 (by decide +kernel) rfl
theorem wm7_73 : Cond.methodLink "InsertMarksLaw" 73 yX6_count ∈ im_ws := im_m 547 (by decide +kernel) rfl
theorem wt_max : Cond.static Lib.Math.max.name ∈ im_ws := im_m 63 (by decide +kernel) rfl
theorem wc_max : Cond.code Lib.Math.max.name Lib.Math.max.code 2 (some .int) ∈ im_ws := im_m 64 (by decide +kernel) rfl
theorem wt_min : Cond.static Lib.Math.min.name ∈ im_ws := im_m 60 (by decide +kernel) rfl
theorem wc_min : Cond.code Lib.Math.min.name Lib.Math.min.code 2 (some .int) ∈ im_ws := im_m 61 (by decide +kernel) rfl
theorem wi_oi : Cond.instanceMethod objectInit ∈ im_ws := im_m 35 (by decide +kernel) rfl
theorem wc_oi : Cond.code objectInit ⟨#[0xb1]⟩ 1 none ∈ im_ws := im_m 36 (by decide +kernel) rfl
theorem qL0 : ∀ w ∈ u_ws qR0 qT0 8, w ∈ im_ws := by
  intro w hw
  obtain ⟨j, hj, rfl⟩ := List.mem_map.mp hw
  have hj := List.mem_range.mp hj
  match j, hj with
  | 0, _ => exact im_m 175 (by decide +kernel) rfl
  | 1, _ => exact im_m 177 (by decide +kernel) rfl
  | 2, _ => exact im_m 179 (by decide +kernel) rfl
  | 3, _ => exact im_m 181 (by decide +kernel) rfl
  | 4, _ => exact im_m 183 (by decide +kernel) rfl
  | 5, _ => exact im_m 185 (by decide +kernel) rfl
  | 6, _ => exact im_m 187 (by decide +kernel) rfl
  | 7, _ => exact im_m 189 (by decide +kernel) rfl
  | j + 8, h => exact absurd h (by omega)
theorem qL1 : ∀ w ∈ u_ws qR1 qT1 9, w ∈ im_ws := by
  intro w hw
  obtain ⟨j, hj, rfl⟩ := List.mem_map.mp hw
  have hj := List.mem_range.mp hj
  match j, hj with
  | 0, _ => exact im_m 118 (by decide +kernel) rfl
  | 1, _ => exact im_m 120 (by decide +kernel) rfl
  | 2, _ => exact im_m 122 (by decide +kernel) rfl
  | 3, _ => exact im_m 124 (by decide +kernel) rfl
  | 4, _ => exact im_m 126 (by decide +kernel) rfl
  | 5, _ => exact im_m 128 (by decide +kernel) rfl
  | 6, _ => exact im_m 130 (by decide +kernel) rfl
  | 7, _ => exact im_m 132 (by decide +kernel) rfl
  | 8, _ => exact im_m 134 (by decide +kernel) rfl
  | j + 9, h => exact absurd h (by omega)
theorem qL2 : ∀ w ∈ u_ws qR2 qT2 2, w ∈ im_ws := by
  intro w hw
  obtain ⟨j, hj, rfl⟩ := List.mem_map.mp hw
  have hj := List.mem_range.mp hj
  match j, hj with
  | 0, _ => exact im_m 53 (by decide +kernel) rfl
  | 1, _ => exact im_m 55 (by decide +kernel) rfl
  | j + 2, h => exact absurd h (by omega)
theorem qL3 : ∀ w ∈ u_ws qR3 qT3 4, w ∈ im_ws := by
  intro w hw
  obtain ⟨j, hj, rfl⟩ := List.mem_map.mp hw
  have hj := List.mem_range.mp hj
  match j, hj with
  | 0, _ => exact im_m 243 (by decide +kernel) rfl
  | 1, _ => exact im_m 245 (by decide +kernel) rfl
  | 2, _ => exact im_m 247 (by decide +kernel) rfl
  | 3, _ => exact im_m 249 (by decide +kernel) rfl
  | j + 4, h => exact absurd h (by omega)
theorem qL4 : ∀ w ∈ u_ws qR4 qT4 3, w ∈ im_ws := by
  intro w hw
  obtain ⟨j, hj, rfl⟩ := List.mem_map.mp hw
  have hj := List.mem_range.mp hj
  match j, hj with
  | 0, _ => exact im_m 287 (by decide +kernel) rfl
  | 1, _ => exact im_m 289 (by decide +kernel) rfl
  | 2, _ => exact im_m 291 (by decide +kernel) rfl
  | j + 3, h => exact absurd h (by omega)
theorem qL5 : ∀ w ∈ u_ws qR5 qT5 9, w ∈ im_ws := by
  intro w hw
  obtain ⟨j, hj, rfl⟩ := List.mem_map.mp hw
  have hj := List.mem_range.mp hj
  match j, hj with
  | 0, _ => exact im_m 74 (by decide +kernel) rfl
  | 1, _ => exact im_m 76 (by decide +kernel) rfl
  | 2, _ => exact im_m 78 (by decide +kernel) rfl
  | 3, _ => exact im_m 80 (by decide +kernel) rfl
  | 4, _ => exact im_m 82 (by decide +kernel) rfl
  | 5, _ => exact im_m 84 (by decide +kernel) rfl
  | 6, _ => exact im_m 86 (by decide +kernel) rfl
  | 7, _ => exact im_m 88 (by decide +kernel) rfl
  | 8, _ => exact im_m 90 (by decide +kernel) rfl
  | j + 9, h => exact absurd h (by omega)
theorem qL6 : ∀ w ∈ u_ws qR6 qT6 28, w ∈ im_ws := by
  intro w hw
  obtain ⟨j, hj, rfl⟩ := List.mem_map.mp hw
  have hj := List.mem_range.mp hj
  match j, hj with
  | 0, _ => exact im_m 402 (by decide +kernel) rfl
  | 1, _ => exact im_m 404 (by decide +kernel) rfl
  | 2, _ => exact im_m 406 (by decide +kernel) rfl
  | 3, _ => exact im_m 408 (by decide +kernel) rfl
  | 4, _ => exact im_m 410 (by decide +kernel) rfl
  | 5, _ => exact im_m 412 (by decide +kernel) rfl
  | 6, _ => exact im_m 414 (by decide +kernel) rfl
  | 7, _ => exact im_m 416 (by decide +kernel) rfl
  | 8, _ => exact im_m 418 (by decide +kernel) rfl
  | 9, _ => exact im_m 420 (by decide +kernel) rfl
  | 10, _ => exact im_m 422 (by decide +kernel) rfl
  | 11, _ => exact im_m 424 (by decide +kernel) rfl
  | 12, _ => exact im_m 426 (by decide +kernel) rfl
  | 13, _ => exact im_m 428 (by decide +kernel) rfl
  | 14, _ => exact im_m 430 (by decide +kernel) rfl
  | 15, _ => exact im_m 432 (by decide +kernel) rfl
  | 16, _ => exact im_m 434 (by decide +kernel) rfl
  | 17, _ => exact im_m 436 (by decide +kernel) rfl
  | 18, _ => exact im_m 438 (by decide +kernel) rfl
  | 19, _ => exact im_m 440 (by decide +kernel) rfl
  | 20, _ => exact im_m 442 (by decide +kernel) rfl
  | 21, _ => exact im_m 444 (by decide +kernel) rfl
  | 22, _ => exact im_m 446 (by decide +kernel) rfl
  | 23, _ => exact im_m 448 (by decide +kernel) rfl
  | 24, _ => exact im_m 450 (by decide +kernel) rfl
  | 25, _ => exact im_m 452 (by decide +kernel) rfl
  | 26, _ => exact im_m 454 (by decide +kernel) rfl
  | 27, _ => exact im_m 456 (by decide +kernel) rfl
  | j + 28, h => exact absurd h (by omega)
theorem wq5_29 : Cond.methodLinkNest qR5 29 yX2_init qR5 ∈ lw_tbl := List.mem_of_getElem? (i := 45) (by decide +kernel)
theorem wq3_50 : Cond.methodLinkNest qR3 50 yX5_isWithin qR5 ∈ lw_tbl := List.mem_of_getElem? (i := 326) (by decide +kernel)
theorem wq2_19 : Cond.methodLinkNest qR2 19 yX5_isWithin qR5 ∈ lw_tbl := List.mem_of_getElem? (i := 339) (by decide +kernel)
theorem wo1 : Cond.arrayOver (.object qR1) ∈ lw_tbl := List.mem_of_getElem? (i := 38) (by decide +kernel)
theorem wo0 : Cond.arrayOver (.object qR0) ∈ lw_tbl := List.mem_of_getElem? (i := 40) (by decide +kernel)
theorem wo3 : Cond.arrayOver (.object qR3) ∈ lw_tbl := List.mem_of_getElem? (i := 42) (by decide +kernel)
theorem wo4 : Cond.arrayOver (.object qR4) ∈ lw_tbl := List.mem_of_getElem? (i := 235) (by decide +kernel)
end
section
theorem dX5_init_0 : decode cX5_init 0 = .ok (.aload_n 0, 1) := by decide +kernel
theorem dX5_init_1 : decode cX5_init 1 = .ok (.invokespecial 1, 3) := by decide +kernel
theorem dX5_init_4 : decode cX5_init 4 = .ok (.aload_n 0, 1) := by decide +kernel
theorem dX5_init_5 : decode cX5_init 5 = .ok (.bipush 8, 2) := by decide +kernel
theorem dX5_init_7 : decode cX5_init 7 = .ok (.anewarray 9, 3) := by decide +kernel
theorem dX5_init_10 : decode cX5_init 10 = .ok (.putfield 11, 3) := by decide +kernel
theorem dX5_init_13 : decode cX5_init 13 = .ok (.aload_n 0, 1) := by decide +kernel
theorem dX5_init_14 : decode cX5_init 14 = .ok (.sipush 200, 3) := by decide +kernel
theorem dX5_init_17 : decode cX5_init 17 = .ok (.anewarray 15, 3) := by decide +kernel
theorem dX5_init_20 : decode cX5_init 20 = .ok (.putfield 17, 3) := by decide +kernel
theorem dX5_init_23 : decode cX5_init 23 = .ok (.aload_n 0, 1) := by decide +kernel
theorem dX5_init_24 : decode cX5_init 24 = .ok (.bipush 40, 2) := by decide +kernel
theorem dX5_init_26 : decode cX5_init 26 = .ok (.anewarray 21, 3) := by decide +kernel
theorem dX5_init_29 : decode cX5_init 29 = .ok (.putfield 23, 3) := by decide +kernel
theorem dX5_init_32 : decode cX5_init 32 = .ok (.aload_n 0, 1) := by decide +kernel
theorem dX5_init_33 : decode cX5_init 33 = .ok (.new 27, 3) := by decide +kernel
theorem dX5_init_36 : decode cX5_init 36 = .ok (.dup, 1) := by decide +kernel
theorem dX5_init_37 : decode cX5_init 37 = .ok (.invokespecial 29, 3) := by decide +kernel
theorem dX5_init_40 : decode cX5_init 40 = .ok (.putfield 30, 3) := by decide +kernel
theorem dX5_init_43 : decode cX5_init 43 = .ok (.aload_n 0, 1) := by decide +kernel
theorem dX5_init_44 : decode cX5_init 44 = .ok (.iconst 1, 1) := by decide +kernel
theorem dX5_init_45 : decode cX5_init 45 = .ok (.iload_n 1, 1) := by decide +kernel
theorem dX5_init_46 : decode cX5_init 46 = .ok (.sipush 30000, 3) := by decide +kernel
theorem dX5_init_49 : decode cX5_init 49 = .ok (.invokestatic 34, 3) := by decide +kernel
theorem dX5_init_52 : decode cX5_init 52 = .ok (.invokestatic 40, 3) := by decide +kernel
theorem dX5_init_55 : decode cX5_init 55 = .ok (.putfield 43, 3) := by decide +kernel
theorem dX5_init_58 : decode cX5_init 58 = .ok (.return_, 1) := by decide +kernel
theorem dX5_cls_0 : decode cX5_cls 0 = .ok (.iload_n 1, 1) := by decide +kernel
theorem dX5_cls_1 : decode cX5_cls 1 = .ok (.iconst (-1), 1) := by decide +kernel
theorem dX5_cls_2 : decode cX5_cls 2 = .ok (.sipush 10000, 3) := by decide +kernel
theorem dX5_cls_5 : decode cX5_cls 5 = .ok (.invokestatic 47, 3) := by decide +kernel
theorem dX5_cls_8 : decode cX5_cls 8 = .ok (.ifCond .eq 14, 3) := by decide +kernel
theorem dX5_cls_11 : decode cX5_cls 11 = .ok (.iload_n 2, 1) := by decide +kernel
theorem dX5_cls_12 : decode cX5_cls 12 = .ok (.iconst 0, 1) := by decide +kernel
theorem dX5_cls_13 : decode cX5_cls 13 = .ok (.sipush 10000, 3) := by decide +kernel
theorem dX5_cls_16 : decode cX5_cls 16 = .ok (.invokestatic 47, 3) := by decide +kernel
theorem dX5_cls_19 : decode cX5_cls 19 = .ok (.ifCond .ne 6, 3) := by decide +kernel
theorem dX5_cls_22 : decode cX5_cls 22 = .ok (.bipush (-2), 2) := by decide +kernel
theorem dX5_cls_24 : decode cX5_cls 24 = .ok (.ireturn, 1) := by decide +kernel
theorem dX5_cls_25 : decode cX5_cls 25 = .ok (.aload_n 0, 1) := by decide +kernel
theorem dX5_cls_26 : decode cX5_cls 26 = .ok (.getfield 51, 3) := by decide +kernel
theorem dX5_cls_29 : decode cX5_cls 29 = .ok (.bipush 8, 2) := by decide +kernel
theorem dX5_cls_31 : decode cX5_cls 31 = .ok (.if_icmp .lt 6, 3) := by decide +kernel
theorem dX5_cls_34 : decode cX5_cls 34 = .ok (.bipush (-4), 2) := by decide +kernel
theorem dX5_cls_36 : decode cX5_cls 36 = .ok (.ireturn, 1) := by decide +kernel
theorem dX5_cls_37 : decode cX5_cls 37 = .ok (.aload_n 0, 1) := by decide +kernel
theorem dX5_cls_38 : decode cX5_cls 38 = .ok (.getfield 51, 3) := by decide +kernel
theorem dX5_cls_41 : decode cX5_cls 41 = .ok (.istore 4, 2) := by decide +kernel
theorem dX5_cls_43 : decode cX5_cls 43 = .ok (.aload_n 0, 1) := by decide +kernel
theorem dX5_cls_44 : decode cX5_cls 44 = .ok (.getfield 11, 3) := by decide +kernel
theorem dX5_cls_47 : decode cX5_cls 47 = .ok (.iload 4, 2) := by decide +kernel
theorem dX5_cls_49 : decode cX5_cls 49 = .ok (.new 9, 3) := by decide +kernel
theorem dX5_cls_52 : decode cX5_cls 52 = .ok (.dup, 1) := by decide +kernel
theorem dX5_cls_53 : decode cX5_cls 53 = .ok (.iload_n 1, 1) := by decide +kernel
theorem dX5_cls_54 : decode cX5_cls 54 = .ok (.iconst (-1), 1) := by decide +kernel
theorem dX5_cls_55 : decode cX5_cls 55 = .ok (.if_icmp .ne 10, 3) := by decide +kernel
theorem dX5_cls_58 : decode cX5_cls 58 = .ok (.aload_n 0, 1) := by decide +kernel
theorem dX5_cls_59 : decode cX5_cls 59 = .ok (.getfield 43, 3) := by decide +kernel
theorem dX5_cls_62 : decode cX5_cls 62 = .ok (.goto 4, 3) := by decide +kernel
theorem dX5_cls_65 : decode cX5_cls 65 = .ok (.iload_n 1, 1) := by decide +kernel
theorem dX5_cls_66 : decode cX5_cls 66 = .ok (.iload_n 2, 1) := by decide +kernel
theorem dX5_cls_67 : decode cX5_cls 67 = .ok (.iload_n 3, 1) := by decide +kernel
theorem dX5_cls_68 : decode cX5_cls 68 = .ok (.invokespecial 54, 3) := by decide +kernel
theorem dX5_cls_71 : decode cX5_cls 71 = .ok (.aastore, 1) := by decide +kernel
theorem dX5_cls_72 : decode cX5_cls 72 = .ok (.aload_n 0, 1) := by decide +kernel
theorem dX5_cls_73 : decode cX5_cls 73 = .ok (.dup, 1) := by decide +kernel
theorem dX5_cls_74 : decode cX5_cls 74 = .ok (.getfield 51, 3) := by decide +kernel
theorem dX5_cls_77 : decode cX5_cls 77 = .ok (.iconst 1, 1) := by decide +kernel
theorem dX5_cls_78 : decode cX5_cls 78 = .ok (.iadd, 1) := by decide +kernel
theorem dX5_cls_79 : decode cX5_cls 79 = .ok (.putfield 51, 3) := by decide +kernel
theorem dX5_cls_82 : decode cX5_cls 82 = .ok (.iload 4, 2) := by decide +kernel
theorem dX5_cls_84 : decode cX5_cls 84 = .ok (.ireturn, 1) := by decide +kernel
theorem dX5_insert_0 : decode cX5_insert 0 = .ok (.aload_n 0, 1) := by decide +kernel
theorem dX5_insert_1 : decode cX5_insert 1 = .ok (.iload_n 1, 1) := by decide +kernel
theorem dX5_insert_2 : decode cX5_insert 2 = .ok (.invokevirtual 57, 3) := by decide +kernel
theorem dX5_insert_5 : decode cX5_insert 5 = .ok (.astore 4, 2) := by decide +kernel
theorem dX5_insert_7 : decode cX5_insert 7 = .ok (.aload 4, 2) := by decide +kernel
theorem dX5_insert_9 : decode cX5_insert 9 = .ok (.ifnonnull 5, 3) := by decide +kernel
theorem dX5_insert_12 : decode cX5_insert 12 = .ok (.iconst (-1), 1) := by decide +kernel
theorem dX5_insert_13 : decode cX5_insert 13 = .ok (.ireturn, 1) := by decide +kernel
theorem dX5_insert_14 : decode cX5_insert 14 = .ok (.iload_n 2, 1) := by decide +kernel
theorem dX5_insert_15 : decode cX5_insert 15 = .ok (.iconst 1, 1) := by decide +kernel
theorem dX5_insert_16 : decode cX5_insert 16 = .ok (.sipush 10000, 3) := by decide +kernel
theorem dX5_insert_19 : decode cX5_insert 19 = .ok (.invokestatic 47, 3) := by decide +kernel
theorem dX5_insert_22 : decode cX5_insert 22 = .ok (.ifCond .eq 10, 3) := by decide +kernel
theorem dX5_insert_25 : decode cX5_insert 25 = .ok (.iload_n 3, 1) := by decide +kernel
theorem dX5_insert_26 : decode cX5_insert 26 = .ok (.invokestatic 61, 3) := by decide +kernel
theorem dX5_insert_29 : decode cX5_insert 29 = .ok (.ifCond .ne 6, 3) := by decide +kernel
theorem dX5_insert_32 : decode cX5_insert 32 = .ok (.bipush (-2), 2) := by decide +kernel
theorem dX5_insert_34 : decode cX5_insert 34 = .ok (.ireturn, 1) := by decide +kernel
theorem dX5_insert_35 : decode cX5_insert 35 = .ok (.aload_n 0, 1) := by decide +kernel
theorem dX5_insert_36 : decode cX5_insert 36 = .ok (.iload_n 3, 1) := by decide +kernel
theorem dX5_insert_37 : decode cX5_insert 37 = .ok (.invokevirtual 65, 3) := by decide +kernel
theorem dX5_insert_40 : decode cX5_insert 40 = .ok (.ifCond .eq 6, 3) := by decide +kernel
theorem dX5_insert_43 : decode cX5_insert 43 = .ok (.bipush (-3), 2) := by decide +kernel
theorem dX5_insert_45 : decode cX5_insert 45 = .ok (.ireturn, 1) := by decide +kernel
theorem dX5_insert_46 : decode cX5_insert 46 = .ok (.aload_n 0, 1) := by decide +kernel
theorem dX5_insert_47 : decode cX5_insert 47 = .ok (.getfield 68, 3) := by decide +kernel
theorem dX5_insert_50 : decode cX5_insert 50 = .ok (.sipush 200, 3) := by decide +kernel
theorem dX5_insert_53 : decode cX5_insert 53 = .ok (.if_icmp .lt 6, 3) := by decide +kernel
theorem dX5_insert_56 : decode cX5_insert 56 = .ok (.bipush (-4), 2) := by decide +kernel
theorem dX5_insert_58 : decode cX5_insert 58 = .ok (.ireturn, 1) := by decide +kernel
theorem dX5_insert_59 : decode cX5_insert 59 = .ok (.aload_n 0, 1) := by decide +kernel
theorem dX5_insert_60 : decode cX5_insert 60 = .ok (.getfield 68, 3) := by decide +kernel
theorem dX5_insert_63 : decode cX5_insert 63 = .ok (.istore 5, 2) := by decide +kernel
theorem dX5_insert_65 : decode cX5_insert 65 = .ok (.aload_n 0, 1) := by decide +kernel
theorem dX5_insert_66 : decode cX5_insert 66 = .ok (.getfield 17, 3) := by decide +kernel
theorem dX5_insert_69 : decode cX5_insert 69 = .ok (.iload 5, 2) := by decide +kernel
theorem dX5_insert_71 : decode cX5_insert 71 = .ok (.new 15, 3) := by decide +kernel
theorem dX5_insert_74 : decode cX5_insert 74 = .ok (.dup, 1) := by decide +kernel
theorem dX5_insert_75 : decode cX5_insert 75 = .ok (.iload 5, 2) := by decide +kernel
theorem dX5_insert_77 : decode cX5_insert 77 = .ok (.aload 4, 2) := by decide +kernel
theorem dX5_insert_79 : decode cX5_insert 79 = .ok (.iload_n 2, 1) := by decide +kernel
theorem dX5_insert_80 : decode cX5_insert 80 = .ok (.iload_n 3, 1) := by decide +kernel
theorem dX5_insert_81 : decode cX5_insert 81 = .ok (.invokespecial 71, 3) := by decide +kernel
theorem dX5_insert_84 : decode cX5_insert 84 = .ok (.aastore, 1) := by decide +kernel
theorem dX5_insert_85 : decode cX5_insert 85 = .ok (.aload_n 0, 1) := by decide +kernel
theorem dX5_insert_86 : decode cX5_insert 86 = .ok (.dup, 1) := by decide +kernel
theorem dX5_insert_87 : decode cX5_insert 87 = .ok (.getfield 68, 3) := by decide +kernel
theorem dX5_insert_90 : decode cX5_insert 90 = .ok (.iconst 1, 1) := by decide +kernel
theorem dX5_insert_91 : decode cX5_insert 91 = .ok (.iadd, 1) := by decide +kernel
theorem dX5_insert_92 : decode cX5_insert 92 = .ok (.putfield 68, 3) := by decide +kernel
theorem dX5_insert_95 : decode cX5_insert 95 = .ok (.iload 5, 2) := by decide +kernel
theorem dX5_insert_97 : decode cX5_insert 97 = .ok (.ireturn, 1) := by decide +kernel
theorem dX5_mark_0 : decode cX5_mark 0 = .ok (.aload_n 0, 1) := by decide +kernel
theorem dX5_mark_1 : decode cX5_mark 1 = .ok (.iload_n 1, 1) := by decide +kernel
theorem dX5_mark_2 : decode cX5_mark 2 = .ok (.invokevirtual 57, 3) := by decide +kernel
theorem dX5_mark_5 : decode cX5_mark 5 = .ok (.astore 4, 2) := by decide +kernel
theorem dX5_mark_7 : decode cX5_mark 7 = .ok (.aload 4, 2) := by decide +kernel
theorem dX5_mark_9 : decode cX5_mark 9 = .ok (.ifnonnull 5, 3) := by decide +kernel
theorem dX5_mark_12 : decode cX5_mark 12 = .ok (.iconst (-1), 1) := by decide +kernel
theorem dX5_mark_13 : decode cX5_mark 13 = .ok (.ireturn, 1) := by decide +kernel
theorem dX5_mark_14 : decode cX5_mark 14 = .ok (.iload_n 3, 1) := by decide +kernel
theorem dX5_mark_15 : decode cX5_mark 15 = .ok (.invokestatic 61, 3) := by decide +kernel
theorem dX5_mark_18 : decode cX5_mark 18 = .ok (.ifCond .ne 6, 3) := by decide +kernel
theorem dX5_mark_21 : decode cX5_mark 21 = .ok (.bipush (-2), 2) := by decide +kernel
theorem dX5_mark_23 : decode cX5_mark 23 = .ok (.ireturn, 1) := by decide +kernel
theorem dX5_mark_24 : decode cX5_mark 24 = .ok (.aload_n 0, 1) := by decide +kernel
theorem dX5_mark_25 : decode cX5_mark 25 = .ok (.iload_n 3, 1) := by decide +kernel
theorem dX5_mark_26 : decode cX5_mark 26 = .ok (.invokevirtual 65, 3) := by decide +kernel
theorem dX5_mark_29 : decode cX5_mark 29 = .ok (.ifCond .eq 6, 3) := by decide +kernel
theorem dX5_mark_32 : decode cX5_mark 32 = .ok (.bipush (-3), 2) := by decide +kernel
theorem dX5_mark_34 : decode cX5_mark 34 = .ok (.ireturn, 1) := by decide +kernel
theorem dX5_mark_35 : decode cX5_mark 35 = .ok (.aload_n 0, 1) := by decide +kernel
theorem dX5_mark_36 : decode cX5_mark 36 = .ok (.getfield 74, 3) := by decide +kernel
theorem dX5_mark_39 : decode cX5_mark 39 = .ok (.sipush 300, 3) := by decide +kernel
theorem dX5_mark_42 : decode cX5_mark 42 = .ok (.if_icmp .lt 6, 3) := by decide +kernel
theorem dX5_mark_45 : decode cX5_mark 45 = .ok (.bipush (-4), 2) := by decide +kernel
theorem dX5_mark_47 : decode cX5_mark 47 = .ok (.ireturn, 1) := by decide +kernel
theorem dX5_mark_48 : decode cX5_mark 48 = .ok (.aload 4, 2) := by decide +kernel
theorem dX5_mark_50 : decode cX5_mark 50 = .ok (.iload_n 3, 1) := by decide +kernel
theorem dX5_mark_51 : decode cX5_mark 51 = .ok (.iload_n 2, 1) := by decide +kernel
theorem dX5_mark_52 : decode cX5_mark 52 = .ok (.invokevirtual 77, 3) := by decide +kernel
theorem dX5_mark_55 : decode cX5_mark 55 = .ok (.aload_n 0, 1) := by decide +kernel
theorem dX5_mark_56 : decode cX5_mark 56 = .ok (.dup, 1) := by decide +kernel
theorem dX5_mark_57 : decode cX5_mark 57 = .ok (.getfield 74, 3) := by decide +kernel
theorem dX5_mark_60 : decode cX5_mark 60 = .ok (.iconst 1, 1) := by decide +kernel
theorem dX5_mark_61 : decode cX5_mark 61 = .ok (.iadd, 1) := by decide +kernel
theorem dX5_mark_62 : decode cX5_mark 62 = .ok (.putfield 74, 3) := by decide +kernel
theorem dX5_mark_65 : decode cX5_mark 65 = .ok (.aload_n 0, 1) := by decide +kernel
theorem dX5_mark_66 : decode cX5_mark 66 = .ok (.getfield 74, 3) := by decide +kernel
theorem dX5_mark_69 : decode cX5_mark 69 = .ok (.ireturn, 1) := by decide +kernel
theorem dX5_close_0 : decode cX5_close 0 = .ok (.aload_n 0, 1) := by decide +kernel
theorem dX5_close_1 : decode cX5_close 1 = .ok (.getfield 81, 3) := by decide +kernel
theorem dX5_close_4 : decode cX5_close 4 = .ok (.bipush 40, 2) := by decide +kernel
theorem dX5_close_6 : decode cX5_close 6 = .ok (.if_icmp .lt 6, 3) := by decide +kernel
theorem dX5_close_9 : decode cX5_close 9 = .ok (.bipush (-3), 2) := by decide +kernel
theorem dX5_close_11 : decode cX5_close 11 = .ok (.ireturn, 1) := by decide +kernel
theorem dX5_close_12 : decode cX5_close 12 = .ok (.aload_n 0, 1) := by decide +kernel
theorem dX5_close_13 : decode cX5_close 13 = .ok (.invokevirtual 84, 3) := by decide +kernel
theorem dX5_close_16 : decode cX5_close 16 = .ok (.ireturn, 1) := by decide +kernel
theorem dX5_flush_0 : decode cX5_flush 0 = .ok (.bipush 40, 2) := by decide +kernel
theorem dX5_flush_2 : decode cX5_flush 2 = .ok (.aload_n 0, 1) := by decide +kernel
theorem dX5_flush_3 : decode cX5_flush 3 = .ok (.getfield 81, 3) := by decide +kernel
theorem dX5_flush_6 : decode cX5_flush 6 = .ok (.isub, 1) := by decide +kernel
theorem dX5_flush_7 : decode cX5_flush 7 = .ok (.istore_n 1, 1) := by decide +kernel
theorem dX5_flush_8 : decode cX5_flush 8 = .ok (.iconst 0, 1) := by decide +kernel
theorem dX5_flush_9 : decode cX5_flush 9 = .ok (.istore_n 2, 1) := by decide +kernel
theorem dX5_flush_10 : decode cX5_flush 10 = .ok (.iload_n 2, 1) := by decide +kernel
theorem dX5_flush_11 : decode cX5_flush 11 = .ok (.iload_n 1, 1) := by decide +kernel
theorem dX5_flush_12 : decode cX5_flush 12 = .ok (.if_icmp .ge 24, 3) := by decide +kernel
theorem dX5_flush_15 : decode cX5_flush 15 = .ok (.aload_n 0, 1) := by decide +kernel
theorem dX5_flush_16 : decode cX5_flush 16 = .ok (.getfield 30, 3) := by decide +kernel
theorem dX5_flush_19 : decode cX5_flush 19 = .ok (.getfield 88, 3) := by decide +kernel
theorem dX5_flush_22 : decode cX5_flush 22 = .ok (.ifCond .le 14, 3) := by decide +kernel
theorem dX5_flush_25 : decode cX5_flush 25 = .ok (.aload_n 0, 1) := by decide +kernel
theorem dX5_flush_26 : decode cX5_flush 26 = .ok (.invokevirtual 84, 3) := by decide +kernel
theorem dX5_flush_29 : decode cX5_flush 29 = .ok (.pop, 1) := by decide +kernel
theorem dX5_flush_30 : decode cX5_flush 30 = .ok (.iinc 2 1, 3) := by decide +kernel
theorem dX5_flush_33 : decode cX5_flush 33 = .ok (.goto (-23), 3) := by decide +kernel
theorem dX5_flush_36 : decode cX5_flush 36 = .ok (.iload_n 2, 1) := by decide +kernel
theorem dX5_flush_37 : decode cX5_flush 37 = .ok (.ireturn, 1) := by decide +kernel
theorem dX5_cancel_0 : decode cX5_cancel 0 = .ok (.aload_n 0, 1) := by decide +kernel
theorem dX5_cancel_1 : decode cX5_cancel 1 = .ok (.iload_n 1, 1) := by decide +kernel
theorem dX5_cancel_2 : decode cX5_cancel 2 = .ok (.invokevirtual 91, 3) := by decide +kernel
theorem dX5_cancel_5 : decode cX5_cancel 5 = .ok (.astore_n 2, 1) := by decide +kernel
theorem dX5_cancel_6 : decode cX5_cancel 6 = .ok (.aload_n 2, 1) := by decide +kernel
theorem dX5_cancel_7 : decode cX5_cancel 7 = .ok (.ifnonnull 5, 3) := by decide +kernel
theorem dX5_cancel_10 : decode cX5_cancel 10 = .ok (.iconst (-1), 1) := by decide +kernel
theorem dX5_cancel_11 : decode cX5_cancel 11 = .ok (.ireturn, 1) := by decide +kernel
theorem dX5_cancel_12 : decode cX5_cancel 12 = .ok (.aload_n 2, 1) := by decide +kernel
theorem dX5_cancel_13 : decode cX5_cancel 13 = .ok (.getfield 95, 3) := by decide +kernel
theorem dX5_cancel_16 : decode cX5_cancel 16 = .ok (.ifCond .gt 10, 3) := by decide +kernel
theorem dX5_cancel_19 : decode cX5_cancel 19 = .ok (.aload_n 2, 1) := by decide +kernel
theorem dX5_cancel_20 : decode cX5_cancel 20 = .ok (.invokevirtual 98, 3) := by decide +kernel
theorem dX5_cancel_23 : decode cX5_cancel 23 = .ok (.ifCond .eq 6, 3) := by decide +kernel
theorem dX5_cancel_26 : decode cX5_cancel 26 = .ok (.bipush (-3), 2) := by decide +kernel
theorem dX5_cancel_28 : decode cX5_cancel 28 = .ok (.ireturn, 1) := by decide +kernel
theorem dX5_cancel_29 : decode cX5_cancel 29 = .ok (.aload_n 2, 1) := by decide +kernel
theorem dX5_cancel_30 : decode cX5_cancel 30 = .ok (.iconst 0, 1) := by decide +kernel
theorem dX5_cancel_31 : decode cX5_cancel 31 = .ok (.putfield 102, 3) := by decide +kernel
theorem dX5_cancel_34 : decode cX5_cancel 34 = .ok (.aload_n 0, 1) := by decide +kernel
theorem dX5_cancel_35 : decode cX5_cancel 35 = .ok (.getfield 30, 3) := by decide +kernel
theorem dX5_cancel_38 : decode cX5_cancel 38 = .ok (.iload_n 1, 1) := by decide +kernel
theorem dX5_cancel_39 : decode cX5_cancel 39 = .ok (.invokevirtual 105, 3) := by decide +kernel
theorem dX5_cancel_42 : decode cX5_cancel 42 = .ok (.iconst 1, 1) := by decide +kernel
theorem dX5_cancel_43 : decode cX5_cancel 43 = .ok (.ireturn, 1) := by decide +kernel
theorem dX5_placed_0 : decode cX5_placed 0 = .ok (.aload_n 0, 1) := by decide +kernel
theorem dX5_placed_1 : decode cX5_placed 1 = .ok (.iload_n 1, 1) := by decide +kernel
theorem dX5_placed_2 : decode cX5_placed 2 = .ok (.invokevirtual 109, 3) := by decide +kernel
theorem dX5_placed_5 : decode cX5_placed 5 = .ok (.astore 4, 2) := by decide +kernel
theorem dX5_placed_7 : decode cX5_placed 7 = .ok (.aload 4, 2) := by decide +kernel
theorem dX5_placed_9 : decode cX5_placed 9 = .ok (.ifnonnull 5, 3) := by decide +kernel
theorem dX5_placed_12 : decode cX5_placed 12 = .ok (.iconst (-1), 1) := by decide +kernel
theorem dX5_placed_13 : decode cX5_placed 13 = .ok (.ireturn, 1) := by decide +kernel
theorem dX5_placed_14 : decode cX5_placed 14 = .ok (.aload 4, 2) := by decide +kernel
theorem dX5_placed_16 : decode cX5_placed 16 = .ok (.iload_n 2, 1) := by decide +kernel
theorem dX5_placed_17 : decode cX5_placed 17 = .ok (.invokevirtual 113, 3) := by decide +kernel
theorem dX5_placed_20 : decode cX5_placed 20 = .ok (.astore 5, 2) := by decide +kernel
theorem dX5_placed_22 : decode cX5_placed 22 = .ok (.aload 5, 2) := by decide +kernel
theorem dX5_placed_24 : decode cX5_placed 24 = .ok (.ifnonnull 5, 3) := by decide +kernel
theorem dX5_placed_27 : decode cX5_placed 27 = .ok (.iconst (-1), 1) := by decide +kernel
theorem dX5_placed_28 : decode cX5_placed 28 = .ok (.ireturn, 1) := by decide +kernel
theorem dX5_placed_29 : decode cX5_placed 29 = .ok (.iload_n 3, 1) := by decide +kernel
theorem dX5_placed_30 : decode cX5_placed 30 = .ok (.tableswitch 68 0 3 #[30, 39, 45, 54], 30) := by decide +kernel
theorem dX5_placed_60 : decode cX5_placed 60 = .ok (.aload 5, 2) := by decide +kernel
theorem dX5_placed_62 : decode cX5_placed 62 = .ok (.getfield 117, 3) := by decide +kernel
theorem dX5_placed_65 : decode cX5_placed 65 = .ok (.getfield 123, 3) := by decide +kernel
theorem dX5_placed_68 : decode cX5_placed 68 = .ok (.ireturn, 1) := by decide +kernel
theorem dX5_placed_69 : decode cX5_placed 69 = .ok (.aload 5, 2) := by decide +kernel
theorem dX5_placed_71 : decode cX5_placed 71 = .ok (.getfield 126, 3) := by decide +kernel
theorem dX5_placed_74 : decode cX5_placed 74 = .ok (.ireturn, 1) := by decide +kernel
theorem dX5_placed_75 : decode cX5_placed 75 = .ok (.aload 5, 2) := by decide +kernel
theorem dX5_placed_77 : decode cX5_placed 77 = .ok (.getfield 117, 3) := by decide +kernel
theorem dX5_placed_80 : decode cX5_placed 80 = .ok (.getfield 129, 3) := by decide +kernel
theorem dX5_placed_83 : decode cX5_placed 83 = .ok (.ireturn, 1) := by decide +kernel
theorem dX5_placed_84 : decode cX5_placed 84 = .ok (.aload 5, 2) := by decide +kernel
theorem dX5_placed_86 : decode cX5_placed 86 = .ok (.getfield 132, 3) := by decide +kernel
theorem dX5_placed_89 : decode cX5_placed 89 = .ok (.ifCond .eq 7, 3) := by decide +kernel
theorem dX5_placed_92 : decode cX5_placed 92 = .ok (.iconst 1, 1) := by decide +kernel
theorem dX5_placed_93 : decode cX5_placed 93 = .ok (.goto 4, 3) := by decide +kernel
theorem dX5_placed_96 : decode cX5_placed 96 = .ok (.iconst 0, 1) := by decide +kernel
theorem dX5_placed_97 : decode cX5_placed 97 = .ok (.ireturn, 1) := by decide +kernel
theorem dX5_placed_98 : decode cX5_placed 98 = .ok (.iconst (-1), 1) := by decide +kernel
theorem dX5_placed_99 : decode cX5_placed 99 = .ok (.ireturn, 1) := by decide +kernel
theorem dX5_about_0 : decode cX5_about 0 = .ok (.aload_n 0, 1) := by decide +kernel
theorem dX5_about_1 : decode cX5_about 1 = .ok (.iload_n 1, 1) := by decide +kernel
theorem dX5_about_2 : decode cX5_about 2 = .ok (.invokevirtual 91, 3) := by decide +kernel
theorem dX5_about_5 : decode cX5_about 5 = .ok (.astore_n 3, 1) := by decide +kernel
theorem dX5_about_6 : decode cX5_about 6 = .ok (.aload_n 3, 1) := by decide +kernel
theorem dX5_about_7 : decode cX5_about 7 = .ok (.ifnonnull 5, 3) := by decide +kernel
theorem dX5_about_10 : decode cX5_about 10 = .ok (.iconst (-1), 1) := by decide +kernel
theorem dX5_about_11 : decode cX5_about 11 = .ok (.ireturn, 1) := by decide +kernel
theorem dX5_about_12 : decode cX5_about 12 = .ok (.iload_n 2, 1) := by decide +kernel
theorem dX5_about_13 : decode cX5_about 13 = .ok (.tableswitch 60 0 4 #[35, 40, 45, 50, 55], 35) := by decide +kernel
theorem dX5_about_48 : decode cX5_about 48 = .ok (.aload_n 3, 1) := by decide +kernel
theorem dX5_about_49 : decode cX5_about 49 = .ok (.getfield 102, 3) := by decide +kernel
theorem dX5_about_52 : decode cX5_about 52 = .ok (.ireturn, 1) := by decide +kernel
theorem dX5_about_53 : decode cX5_about 53 = .ok (.aload_n 3, 1) := by decide +kernel
theorem dX5_about_54 : decode cX5_about 54 = .ok (.getfield 136, 3) := by decide +kernel
theorem dX5_about_57 : decode cX5_about 57 = .ok (.ireturn, 1) := by decide +kernel
theorem dX5_about_58 : decode cX5_about 58 = .ok (.aload_n 3, 1) := by decide +kernel
theorem dX5_about_59 : decode cX5_about 59 = .ok (.getfield 139, 3) := by decide +kernel
theorem dX5_about_62 : decode cX5_about 62 = .ok (.ireturn, 1) := by decide +kernel
theorem dX5_about_63 : decode cX5_about 63 = .ok (.aload_n 3, 1) := by decide +kernel
theorem dX5_about_64 : decode cX5_about 64 = .ok (.getfield 129, 3) := by decide +kernel
theorem dX5_about_67 : decode cX5_about 67 = .ok (.ireturn, 1) := by decide +kernel
theorem dX5_about_68 : decode cX5_about 68 = .ok (.aload_n 3, 1) := by decide +kernel
theorem dX5_about_69 : decode cX5_about 69 = .ok (.getfield 95, 3) := by decide +kernel
theorem dX5_about_72 : decode cX5_about 72 = .ok (.ireturn, 1) := by decide +kernel
theorem dX5_about_73 : decode cX5_about 73 = .ok (.bipush (-2), 2) := by decide +kernel
theorem dX5_about_75 : decode cX5_about 75 = .ok (.ireturn, 1) := by decide +kernel
theorem dX5_held_0 : decode cX5_held 0 = .ok (.aload_n 0, 1) := by decide +kernel
theorem dX5_held_1 : decode cX5_held 1 = .ok (.getfield 30, 3) := by decide +kernel
theorem dX5_held_4 : decode cX5_held 4 = .ok (.iload_n 1, 1) := by decide +kernel
theorem dX5_held_5 : decode cX5_held 5 = .ok (.invokevirtual 142, 3) := by decide +kernel
theorem dX5_held_8 : decode cX5_held 8 = .ok (.ireturn, 1) := by decide +kernel
theorem dX5_used_0 : decode cX5_used 0 = .ok (.aload_n 0, 1) := by decide +kernel
theorem dX5_used_1 : decode cX5_used 1 = .ok (.iload_n 2, 1) := by decide +kernel
theorem dX5_used_2 : decode cX5_used 2 = .ok (.invokevirtual 57, 3) := by decide +kernel
theorem dX5_used_5 : decode cX5_used 5 = .ok (.astore_n 3, 1) := by decide +kernel
theorem dX5_used_6 : decode cX5_used 6 = .ok (.iload_n 1, 1) := by decide +kernel
theorem dX5_used_7 : decode cX5_used 7 = .ok (.invokestatic 61, 3) := by decide +kernel
theorem dX5_used_10 : decode cX5_used 10 = .ok (.ifCond .eq 12, 3) := by decide +kernel
theorem dX5_used_13 : decode cX5_used 13 = .ok (.aload_n 3, 1) := by decide +kernel
theorem dX5_used_14 : decode cX5_used 14 = .ok (.ifnonnull 10, 3) := by decide +kernel
theorem dX5_used_17 : decode cX5_used 17 = .ok (.iload_n 2, 1) := by decide +kernel
theorem dX5_used_18 : decode cX5_used 18 = .ok (.iconst (-1), 1) := by decide +kernel
theorem dX5_used_19 : decode cX5_used 19 = .ok (.if_icmp .eq 5, 3) := by decide +kernel
theorem dX5_used_22 : decode cX5_used 22 = .ok (.iconst (-1), 1) := by decide +kernel
theorem dX5_used_23 : decode cX5_used 23 = .ok (.ireturn, 1) := by decide +kernel
theorem dX5_used_24 : decode cX5_used 24 = .ok (.aload_n 3, 1) := by decide +kernel
theorem dX5_used_25 : decode cX5_used 25 = .ok (.ifnull 10, 3) := by decide +kernel
theorem dX5_used_28 : decode cX5_used 28 = .ok (.aload_n 3, 1) := by decide +kernel
theorem dX5_used_29 : decode cX5_used 29 = .ok (.getfield 146, 3) := by decide +kernel
theorem dX5_used_32 : decode cX5_used 32 = .ok (.iload_n 1, 1) := by decide +kernel
theorem dX5_used_33 : decode cX5_used 33 = .ok (.iaload, 1) := by decide +kernel
theorem dX5_used_34 : decode cX5_used 34 = .ok (.ireturn, 1) := by decide +kernel
theorem dX5_used_35 : decode cX5_used 35 = .ok (.aload_n 0, 1) := by decide +kernel
theorem dX5_used_36 : decode cX5_used 36 = .ok (.iload_n 1, 1) := by decide +kernel
theorem dX5_used_37 : decode cX5_used 37 = .ok (.invokevirtual 109, 3) := by decide +kernel
theorem dX5_used_40 : decode cX5_used 40 = .ok (.astore 4, 2) := by decide +kernel
theorem dX5_used_42 : decode cX5_used 42 = .ok (.aload 4, 2) := by decide +kernel
theorem dX5_used_44 : decode cX5_used 44 = .ok (.ifnonnull 7, 3) := by decide +kernel
theorem dX5_used_47 : decode cX5_used 47 = .ok (.iconst 0, 1) := by decide +kernel
theorem dX5_used_48 : decode cX5_used 48 = .ok (.goto 8, 3) := by decide +kernel
theorem dX5_used_51 : decode cX5_used 51 = .ok (.aload 4, 2) := by decide +kernel
theorem dX5_used_53 : decode cX5_used 53 = .ok (.getfield 150, 3) := by decide +kernel
theorem dX5_used_56 : decode cX5_used 56 = .ok (.ireturn, 1) := by decide +kernel
theorem dX5_seen_0 : decode cX5_seen 0 = .ok (.aload_n 0, 1) := by decide +kernel
theorem dX5_seen_1 : decode cX5_seen 1 = .ok (.iload_n 1, 1) := by decide +kernel
theorem dX5_seen_2 : decode cX5_seen 2 = .ok (.invokevirtual 57, 3) := by decide +kernel
theorem dX5_seen_5 : decode cX5_seen 5 = .ok (.astore 4, 2) := by decide +kernel
theorem dX5_seen_7 : decode cX5_seen 7 = .ok (.aload 4, 2) := by decide +kernel
theorem dX5_seen_9 : decode cX5_seen 9 = .ok (.ifnull 10, 3) := by decide +kernel
theorem dX5_seen_12 : decode cX5_seen 12 = .ok (.iload_n 2, 1) := by decide +kernel
theorem dX5_seen_13 : decode cX5_seen 13 = .ok (.invokestatic 61, 3) := by decide +kernel
theorem dX5_seen_16 : decode cX5_seen 16 = .ok (.ifCond .ne 5, 3) := by decide +kernel
theorem dX5_seen_19 : decode cX5_seen 19 = .ok (.iconst 0, 1) := by decide +kernel
theorem dX5_seen_20 : decode cX5_seen 20 = .ok (.ireturn, 1) := by decide +kernel
theorem dX5_seen_21 : decode cX5_seen 21 = .ok (.iload_n 3, 1) := by decide +kernel
theorem dX5_seen_22 : decode cX5_seen 22 = .ok (.tableswitch 47 0 2 #[26, 33, 40], 26) := by decide +kernel
theorem dX5_seen_48 : decode cX5_seen 48 = .ok (.aload 4, 2) := by decide +kernel
theorem dX5_seen_50 : decode cX5_seen 50 = .ok (.iload_n 2, 1) := by decide +kernel
theorem dX5_seen_51 : decode cX5_seen 51 = .ok (.invokevirtual 151, 3) := by decide +kernel
theorem dX5_seen_54 : decode cX5_seen 54 = .ok (.ireturn, 1) := by decide +kernel
theorem dX5_seen_55 : decode cX5_seen 55 = .ok (.aload 4, 2) := by decide +kernel
theorem dX5_seen_57 : decode cX5_seen 57 = .ok (.iload_n 2, 1) := by decide +kernel
theorem dX5_seen_58 : decode cX5_seen 58 = .ok (.invokevirtual 154, 3) := by decide +kernel
theorem dX5_seen_61 : decode cX5_seen 61 = .ok (.ireturn, 1) := by decide +kernel
theorem dX5_seen_62 : decode cX5_seen 62 = .ok (.aload 4, 2) := by decide +kernel
theorem dX5_seen_64 : decode cX5_seen 64 = .ok (.iload_n 2, 1) := by decide +kernel
theorem dX5_seen_65 : decode cX5_seen 65 = .ok (.invokevirtual 157, 3) := by decide +kernel
theorem dX5_seen_68 : decode cX5_seen 68 = .ok (.ireturn, 1) := by decide +kernel
theorem dX5_seen_69 : decode cX5_seen 69 = .ok (.iconst 0, 1) := by decide +kernel
theorem dX5_seen_70 : decode cX5_seen 70 = .ok (.ireturn, 1) := by decide +kernel
theorem dX5_count_0 : decode cX5_count 0 = .ok (.iload_n 1, 1) := by decide +kernel
theorem dX5_count_1 : decode cX5_count 1 = .ok (.tableswitch 63 0 4 #[35, 40, 45, 50, 55], 35) := by decide +kernel
theorem dX5_count_36 : decode cX5_count 36 = .ok (.aload_n 0, 1) := by decide +kernel
theorem dX5_count_37 : decode cX5_count 37 = .ok (.getfield 51, 3) := by decide +kernel
theorem dX5_count_40 : decode cX5_count 40 = .ok (.ireturn, 1) := by decide +kernel
theorem dX5_count_41 : decode cX5_count 41 = .ok (.aload_n 0, 1) := by decide +kernel
theorem dX5_count_42 : decode cX5_count 42 = .ok (.getfield 68, 3) := by decide +kernel
theorem dX5_count_45 : decode cX5_count 45 = .ok (.ireturn, 1) := by decide +kernel
theorem dX5_count_46 : decode cX5_count 46 = .ok (.aload_n 0, 1) := by decide +kernel
theorem dX5_count_47 : decode cX5_count 47 = .ok (.getfield 74, 3) := by decide +kernel
theorem dX5_count_50 : decode cX5_count 50 = .ok (.ireturn, 1) := by decide +kernel
theorem dX5_count_51 : decode cX5_count 51 = .ok (.aload_n 0, 1) := by decide +kernel
theorem dX5_count_52 : decode cX5_count 52 = .ok (.getfield 81, 3) := by decide +kernel
theorem dX5_count_55 : decode cX5_count 55 = .ok (.ireturn, 1) := by decide +kernel
theorem dX5_count_56 : decode cX5_count 56 = .ok (.aload_n 0, 1) := by decide +kernel
theorem dX5_count_57 : decode cX5_count 57 = .ok (.getfield 30, 3) := by decide +kernel
theorem dX5_count_60 : decode cX5_count 60 = .ok (.getfield 88, 3) := by decide +kernel
theorem dX5_count_63 : decode cX5_count 63 = .ok (.ireturn, 1) := by decide +kernel
theorem dX5_count_64 : decode cX5_count 64 = .ok (.bipush (-2), 2) := by decide +kernel
theorem dX5_count_66 : decode cX5_count 66 = .ok (.ireturn, 1) := by decide +kernel
theorem dX5_isWithin_0 : decode cX5_isWithin 0 = .ok (.iload_n 1, 1) := by decide +kernel
theorem dX5_isWithin_1 : decode cX5_isWithin 1 = .ok (.iload_n 0, 1) := by decide +kernel
theorem dX5_isWithin_2 : decode cX5_isWithin 2 = .ok (.if_icmp .gt 12, 3) := by decide +kernel
theorem dX5_isWithin_5 : decode cX5_isWithin 5 = .ok (.iload_n 0, 1) := by decide +kernel
theorem dX5_isWithin_6 : decode cX5_isWithin 6 = .ok (.iload_n 2, 1) := by decide +kernel
theorem dX5_isWithin_7 : decode cX5_isWithin 7 = .ok (.if_icmp .gt 7, 3) := by decide +kernel
theorem dX5_isWithin_10 : decode cX5_isWithin 10 = .ok (.iconst 1, 1) := by decide +kernel
theorem dX5_isWithin_11 : decode cX5_isWithin 11 = .ok (.goto 4, 3) := by decide +kernel
theorem dX5_isWithin_14 : decode cX5_isWithin 14 = .ok (.iconst 0, 1) := by decide +kernel
theorem dX5_isWithin_15 : decode cX5_isWithin 15 = .ok (.ireturn, 1) := by decide +kernel
theorem dX5_isPage_0 : decode cX5_isPage 0 = .ok (.iload_n 0, 1) := by decide +kernel
theorem dX5_isPage_1 : decode cX5_isPage 1 = .ok (.iconst 0, 1) := by decide +kernel
theorem dX5_isPage_2 : decode cX5_isPage 2 = .ok (.bipush 39, 2) := by decide +kernel
theorem dX5_isPage_4 : decode cX5_isPage 4 = .ok (.invokestatic 47, 3) := by decide +kernel
theorem dX5_isPage_7 : decode cX5_isPage 7 = .ok (.ireturn, 1) := by decide +kernel
theorem dX5_isClosed_0 : decode cX5_isClosed 0 = .ok (.iload_n 1, 1) := by decide +kernel
theorem dX5_isClosed_1 : decode cX5_isClosed 1 = .ok (.aload_n 0, 1) := by decide +kernel
theorem dX5_isClosed_2 : decode cX5_isClosed 2 = .ok (.getfield 81, 3) := by decide +kernel
theorem dX5_isClosed_5 : decode cX5_isClosed 5 = .ok (.if_icmp .ge 7, 3) := by decide +kernel
theorem dX5_isClosed_8 : decode cX5_isClosed 8 = .ok (.iconst 1, 1) := by decide +kernel
theorem dX5_isClosed_9 : decode cX5_isClosed 9 = .ok (.goto 4, 3) := by decide +kernel
theorem dX5_isClosed_12 : decode cX5_isClosed 12 = .ok (.iconst 0, 1) := by decide +kernel
theorem dX5_isClosed_13 : decode cX5_isClosed 13 = .ok (.ireturn, 1) := by decide +kernel
theorem dX5_kindAt_0 : decode cX5_kindAt 0 = .ok (.iload_n 1, 1) := by decide +kernel
theorem dX5_kindAt_1 : decode cX5_kindAt 1 = .ok (.iconst 0, 1) := by decide +kernel
theorem dX5_kindAt_2 : decode cX5_kindAt 2 = .ok (.bipush 7, 2) := by decide +kernel
theorem dX5_kindAt_4 : decode cX5_kindAt 4 = .ok (.invokestatic 47, 3) := by decide +kernel
theorem dX5_kindAt_7 : decode cX5_kindAt 7 = .ok (.ifCond .eq 12, 3) := by decide +kernel
theorem dX5_kindAt_10 : decode cX5_kindAt 10 = .ok (.aload_n 0, 1) := by decide +kernel
theorem dX5_kindAt_11 : decode cX5_kindAt 11 = .ok (.getfield 11, 3) := by decide +kernel
theorem dX5_kindAt_14 : decode cX5_kindAt 14 = .ok (.iload_n 1, 1) := by decide +kernel
theorem dX5_kindAt_15 : decode cX5_kindAt 15 = .ok (.aaload, 1) := by decide +kernel
theorem dX5_kindAt_16 : decode cX5_kindAt 16 = .ok (.goto 4, 3) := by decide +kernel
theorem dX5_kindAt_19 : decode cX5_kindAt 19 = .ok (.aconst_null, 1) := by decide +kernel
theorem dX5_kindAt_20 : decode cX5_kindAt 20 = .ok (.areturn, 1) := by decide +kernel
theorem dX5_insertAt_0 : decode cX5_insertAt 0 = .ok (.iload_n 1, 1) := by decide +kernel
theorem dX5_insertAt_1 : decode cX5_insertAt 1 = .ok (.iconst 0, 1) := by decide +kernel
theorem dX5_insertAt_2 : decode cX5_insertAt 2 = .ok (.sipush 199, 3) := by decide +kernel
theorem dX5_insertAt_5 : decode cX5_insertAt 5 = .ok (.invokestatic 47, 3) := by decide +kernel
theorem dX5_insertAt_8 : decode cX5_insertAt 8 = .ok (.ifCond .eq 12, 3) := by decide +kernel
theorem dX5_insertAt_11 : decode cX5_insertAt 11 = .ok (.aload_n 0, 1) := by decide +kernel
theorem dX5_insertAt_12 : decode cX5_insertAt 12 = .ok (.getfield 17, 3) := by decide +kernel
theorem dX5_insertAt_15 : decode cX5_insertAt 15 = .ok (.iload_n 1, 1) := by decide +kernel
theorem dX5_insertAt_16 : decode cX5_insertAt 16 = .ok (.aaload, 1) := by decide +kernel
theorem dX5_insertAt_17 : decode cX5_insertAt 17 = .ok (.goto 4, 3) := by decide +kernel
theorem dX5_insertAt_20 : decode cX5_insertAt 20 = .ok (.aconst_null, 1) := by decide +kernel
theorem dX5_insertAt_21 : decode cX5_insertAt 21 = .ok (.areturn, 1) := by decide +kernel
theorem dX5_closedPageAt_0 : decode cX5_closedPageAt 0 = .ok (.iload_n 1, 1) := by decide +kernel
theorem dX5_closedPageAt_1 : decode cX5_closedPageAt 1 = .ok (.invokestatic 61, 3) := by decide +kernel
theorem dX5_closedPageAt_4 : decode cX5_closedPageAt 4 = .ok (.ifCond .eq 12, 3) := by decide +kernel
theorem dX5_closedPageAt_7 : decode cX5_closedPageAt 7 = .ok (.aload_n 0, 1) := by decide +kernel
theorem dX5_closedPageAt_8 : decode cX5_closedPageAt 8 = .ok (.getfield 23, 3) := by decide +kernel
theorem dX5_closedPageAt_11 : decode cX5_closedPageAt 11 = .ok (.iload_n 1, 1) := by decide +kernel
theorem dX5_closedPageAt_12 : decode cX5_closedPageAt 12 = .ok (.aaload, 1) := by decide +kernel
theorem dX5_closedPageAt_13 : decode cX5_closedPageAt 13 = .ok (.goto 4, 3) := by decide +kernel
theorem dX5_closedPageAt_16 : decode cX5_closedPageAt 16 = .ok (.aconst_null, 1) := by decide +kernel
theorem dX5_closedPageAt_17 : decode cX5_closedPageAt 17 = .ok (.areturn, 1) := by decide +kernel
theorem dX5_closeNextPage_0 : decode cX5_closeNextPage 0 = .ok (.aload_n 0, 1) := by decide +kernel
theorem dX5_closeNextPage_1 : decode cX5_closeNextPage 1 = .ok (.aload_n 0, 1) := by decide +kernel
theorem dX5_closeNextPage_2 : decode cX5_closeNextPage 2 = .ok (.getfield 81, 3) := by decide +kernel
theorem dX5_closeNextPage_5 : decode cX5_closeNextPage 5 = .ok (.invokevirtual 160, 3) := by decide +kernel
theorem dX5_closeNextPage_8 : decode cX5_closeNextPage 8 = .ok (.aload_n 0, 1) := by decide +kernel
theorem dX5_closeNextPage_9 : decode cX5_closeNextPage 9 = .ok (.invokevirtual 163, 3) := by decide +kernel
theorem dX5_closeNextPage_12 : decode cX5_closeNextPage 12 = .ok (.new 21, 3) := by decide +kernel
theorem dX5_closeNextPage_15 : decode cX5_closeNextPage 15 = .ok (.dup, 1) := by decide +kernel
theorem dX5_closeNextPage_16 : decode cX5_closeNextPage 16 = .ok (.aload_n 0, 1) := by decide +kernel
theorem dX5_closeNextPage_17 : decode cX5_closeNextPage 17 = .ok (.getfield 81, 3) := by decide +kernel
theorem dX5_closeNextPage_20 : decode cX5_closeNextPage 20 = .ok (.aload_n 0, 1) := by decide +kernel
theorem dX5_closeNextPage_21 : decode cX5_closeNextPage 21 = .ok (.getfield 30, 3) := by decide +kernel
theorem dX5_closeNextPage_24 : decode cX5_closeNextPage 24 = .ok (.getfield 88, 3) := by decide +kernel
theorem dX5_closeNextPage_27 : decode cX5_closeNextPage 27 = .ok (.invokespecial 166, 3) := by decide +kernel
theorem dX5_closeNextPage_30 : decode cX5_closeNextPage 30 = .ok (.astore_n 1, 1) := by decide +kernel
theorem dX5_closeNextPage_31 : decode cX5_closeNextPage 31 = .ok (.aload_n 0, 1) := by decide +kernel
theorem dX5_closeNextPage_32 : decode cX5_closeNextPage 32 = .ok (.aload_n 1, 1) := by decide +kernel
theorem dX5_closeNextPage_33 : decode cX5_closeNextPage 33 = .ok (.invokevirtual 168, 3) := by decide +kernel
theorem dX5_closeNextPage_36 : decode cX5_closeNextPage 36 = .ok (.aload_n 0, 1) := by decide +kernel
theorem dX5_closeNextPage_37 : decode cX5_closeNextPage 37 = .ok (.getfield 23, 3) := by decide +kernel
theorem dX5_closeNextPage_40 : decode cX5_closeNextPage 40 = .ok (.aload_n 0, 1) := by decide +kernel
theorem dX5_closeNextPage_41 : decode cX5_closeNextPage 41 = .ok (.getfield 81, 3) := by decide +kernel
theorem dX5_closeNextPage_44 : decode cX5_closeNextPage 44 = .ok (.aload_n 1, 1) := by decide +kernel
theorem dX5_closeNextPage_45 : decode cX5_closeNextPage 45 = .ok (.aastore, 1) := by decide +kernel
theorem dX5_closeNextPage_46 : decode cX5_closeNextPage 46 = .ok (.aload_n 0, 1) := by decide +kernel
theorem dX5_closeNextPage_47 : decode cX5_closeNextPage 47 = .ok (.dup, 1) := by decide +kernel
theorem dX5_closeNextPage_48 : decode cX5_closeNextPage 48 = .ok (.getfield 81, 3) := by decide +kernel
theorem dX5_closeNextPage_51 : decode cX5_closeNextPage 51 = .ok (.iconst 1, 1) := by decide +kernel
theorem dX5_closeNextPage_52 : decode cX5_closeNextPage 52 = .ok (.iadd, 1) := by decide +kernel
theorem dX5_closeNextPage_53 : decode cX5_closeNextPage 53 = .ok (.putfield 81, 3) := by decide +kernel
theorem dX5_closeNextPage_56 : decode cX5_closeNextPage 56 = .ok (.aload_n 1, 1) := by decide +kernel
theorem dX5_closeNextPage_57 : decode cX5_closeNextPage 57 = .ok (.getfield 172, 3) := by decide +kernel
theorem dX5_closeNextPage_60 : decode cX5_closeNextPage 60 = .ok (.ireturn, 1) := by decide +kernel
theorem dX5_goThroughLine_0 : decode cX5_goThroughLine 0 = .ok (.aload_n 0, 1) := by decide +kernel
theorem dX5_goThroughLine_1 : decode cX5_goThroughLine 1 = .ok (.getfield 30, 3) := by decide +kernel
theorem dX5_goThroughLine_4 : decode cX5_goThroughLine 4 = .ok (.getfield 88, 3) := by decide +kernel
theorem dX5_goThroughLine_7 : decode cX5_goThroughLine 7 = .ok (.istore_n 2, 1) := by decide +kernel
theorem dX5_goThroughLine_8 : decode cX5_goThroughLine 8 = .ok (.aload_n 0, 1) := by decide +kernel
theorem dX5_goThroughLine_9 : decode cX5_goThroughLine 9 = .ok (.getfield 30, 3) := by decide +kernel
theorem dX5_goThroughLine_12 : decode cX5_goThroughLine 12 = .ok (.iconst 0, 1) := by decide +kernel
theorem dX5_goThroughLine_13 : decode cX5_goThroughLine 13 = .ok (.putfield 88, 3) := by decide +kernel
theorem dX5_goThroughLine_16 : decode cX5_goThroughLine 16 = .ok (.iconst 0, 1) := by decide +kernel
theorem dX5_goThroughLine_17 : decode cX5_goThroughLine 17 = .ok (.istore_n 3, 1) := by decide +kernel
theorem dX5_goThroughLine_18 : decode cX5_goThroughLine 18 = .ok (.iload_n 3, 1) := by decide +kernel
theorem dX5_goThroughLine_19 : decode cX5_goThroughLine 19 = .ok (.iload_n 2, 1) := by decide +kernel
theorem dX5_goThroughLine_20 : decode cX5_goThroughLine 20 = .ok (.if_icmp .ge 52, 3) := by decide +kernel
theorem dX5_goThroughLine_23 : decode cX5_goThroughLine 23 = .ok (.aload_n 0, 1) := by decide +kernel
theorem dX5_goThroughLine_24 : decode cX5_goThroughLine 24 = .ok (.getfield 30, 3) := by decide +kernel
theorem dX5_goThroughLine_27 : decode cX5_goThroughLine 27 = .ok (.getfield 173, 3) := by decide +kernel
theorem dX5_goThroughLine_30 : decode cX5_goThroughLine 30 = .ok (.iload_n 3, 1) := by decide +kernel
theorem dX5_goThroughLine_31 : decode cX5_goThroughLine 31 = .ok (.iaload, 1) := by decide +kernel
theorem dX5_goThroughLine_32 : decode cX5_goThroughLine 32 = .ok (.istore 4, 2) := by decide +kernel
theorem dX5_goThroughLine_34 : decode cX5_goThroughLine 34 = .ok (.aload_n 0, 1) := by decide +kernel
theorem dX5_goThroughLine_35 : decode cX5_goThroughLine 35 = .ok (.iload 4, 2) := by decide +kernel
theorem dX5_goThroughLine_37 : decode cX5_goThroughLine 37 = .ok (.invokevirtual 91, 3) := by decide +kernel
theorem dX5_goThroughLine_40 : decode cX5_goThroughLine 40 = .ok (.astore 5, 2) := by decide +kernel
theorem dX5_goThroughLine_42 : decode cX5_goThroughLine 42 = .ok (.aload 5, 2) := by decide +kernel
theorem dX5_goThroughLine_44 : decode cX5_goThroughLine 44 = .ok (.ifnull 22, 3) := by decide +kernel
theorem dX5_goThroughLine_47 : decode cX5_goThroughLine 47 = .ok (.aload_n 0, 1) := by decide +kernel
theorem dX5_goThroughLine_48 : decode cX5_goThroughLine 48 = .ok (.aload_n 1, 1) := by decide +kernel
theorem dX5_goThroughLine_49 : decode cX5_goThroughLine 49 = .ok (.aload 5, 2) := by decide +kernel
theorem dX5_goThroughLine_51 : decode cX5_goThroughLine 51 = .ok (.invokevirtual 176, 3) := by decide +kernel
theorem dX5_goThroughLine_54 : decode cX5_goThroughLine 54 = .ok (.ifCond .eq 12, 3) := by decide +kernel
theorem dX5_goThroughLine_57 : decode cX5_goThroughLine 57 = .ok (.aload_n 0, 1) := by decide +kernel
theorem dX5_goThroughLine_58 : decode cX5_goThroughLine 58 = .ok (.getfield 30, 3) := by decide +kernel
theorem dX5_goThroughLine_61 : decode cX5_goThroughLine 61 = .ok (.iload 4, 2) := by decide +kernel
theorem dX5_goThroughLine_63 : decode cX5_goThroughLine 63 = .ok (.invokevirtual 180, 3) := by decide +kernel
theorem dX5_goThroughLine_66 : decode cX5_goThroughLine 66 = .ok (.iinc 3 1, 3) := by decide +kernel
theorem dX5_goThroughLine_69 : decode cX5_goThroughLine 69 = .ok (.goto (-51), 3) := by decide +kernel
theorem dX5_goThroughLine_72 : decode cX5_goThroughLine 72 = .ok (.return_, 1) := by decide +kernel
theorem dX5_lineUpInsertsOf_0 : decode cX5_lineUpInsertsOf 0 = .ok (.iconst 0, 1) := by decide +kernel
theorem dX5_lineUpInsertsOf_1 : decode cX5_lineUpInsertsOf 1 = .ok (.istore_n 2, 1) := by decide +kernel
theorem dX5_lineUpInsertsOf_2 : decode cX5_lineUpInsertsOf 2 = .ok (.iload_n 2, 1) := by decide +kernel
theorem dX5_lineUpInsertsOf_3 : decode cX5_lineUpInsertsOf 3 = .ok (.aload_n 0, 1) := by decide +kernel
theorem dX5_lineUpInsertsOf_4 : decode cX5_lineUpInsertsOf 4 = .ok (.getfield 68, 3) := by decide +kernel
theorem dX5_lineUpInsertsOf_7 : decode cX5_lineUpInsertsOf 7 = .ok (.if_icmp .ge 42, 3) := by decide +kernel
theorem dX5_lineUpInsertsOf_10 : decode cX5_lineUpInsertsOf 10 = .ok (.aload_n 0, 1) := by decide +kernel
theorem dX5_lineUpInsertsOf_11 : decode cX5_lineUpInsertsOf 11 = .ok (.iload_n 2, 1) := by decide +kernel
theorem dX5_lineUpInsertsOf_12 : decode cX5_lineUpInsertsOf 12 = .ok (.invokevirtual 91, 3) := by decide +kernel
theorem dX5_lineUpInsertsOf_15 : decode cX5_lineUpInsertsOf 15 = .ok (.astore_n 3, 1) := by decide +kernel
theorem dX5_lineUpInsertsOf_16 : decode cX5_lineUpInsertsOf 16 = .ok (.aload_n 3, 1) := by decide +kernel
theorem dX5_lineUpInsertsOf_17 : decode cX5_lineUpInsertsOf 17 = .ok (.ifnull 26, 3) := by decide +kernel
theorem dX5_lineUpInsertsOf_20 : decode cX5_lineUpInsertsOf 20 = .ok (.aload_n 3, 1) := by decide +kernel
theorem dX5_lineUpInsertsOf_21 : decode cX5_lineUpInsertsOf 21 = .ok (.getfield 183, 3) := by decide +kernel
theorem dX5_lineUpInsertsOf_24 : decode cX5_lineUpInsertsOf 24 = .ok (.iload_n 1, 1) := by decide +kernel
theorem dX5_lineUpInsertsOf_25 : decode cX5_lineUpInsertsOf 25 = .ok (.if_icmp .ne 18, 3) := by decide +kernel
theorem dX5_lineUpInsertsOf_28 : decode cX5_lineUpInsertsOf 28 = .ok (.aload_n 3, 1) := by decide +kernel
theorem dX5_lineUpInsertsOf_29 : decode cX5_lineUpInsertsOf 29 = .ok (.getfield 102, 3) := by decide +kernel
theorem dX5_lineUpInsertsOf_32 : decode cX5_lineUpInsertsOf 32 = .ok (.ifCond .le 11, 3) := by decide +kernel
theorem dX5_lineUpInsertsOf_35 : decode cX5_lineUpInsertsOf 35 = .ok (.aload_n 0, 1) := by decide +kernel
theorem dX5_lineUpInsertsOf_36 : decode cX5_lineUpInsertsOf 36 = .ok (.getfield 30, 3) := by decide +kernel
theorem dX5_lineUpInsertsOf_39 : decode cX5_lineUpInsertsOf 39 = .ok (.iload_n 2, 1) := by decide +kernel
theorem dX5_lineUpInsertsOf_40 : decode cX5_lineUpInsertsOf 40 = .ok (.invokevirtual 180, 3) := by decide +kernel
theorem dX5_lineUpInsertsOf_43 : decode cX5_lineUpInsertsOf 43 = .ok (.iinc 2 1, 3) := by decide +kernel
theorem dX5_lineUpInsertsOf_46 : decode cX5_lineUpInsertsOf 46 = .ok (.goto (-44), 3) := by decide +kernel
theorem dX5_lineUpInsertsOf_49 : decode cX5_lineUpInsertsOf 49 = .ok (.return_, 1) := by decide +kernel
theorem dX5_startPageInKinds_0 : decode cX5_startPageInKinds 0 = .ok (.iconst 0, 1) := by decide +kernel
theorem dX5_startPageInKinds_1 : decode cX5_startPageInKinds 1 = .ok (.istore_n 1, 1) := by decide +kernel
theorem dX5_startPageInKinds_2 : decode cX5_startPageInKinds 2 = .ok (.iload_n 1, 1) := by decide +kernel
theorem dX5_startPageInKinds_3 : decode cX5_startPageInKinds 3 = .ok (.aload_n 0, 1) := by decide +kernel
theorem dX5_startPageInKinds_4 : decode cX5_startPageInKinds 4 = .ok (.getfield 51, 3) := by decide +kernel
theorem dX5_startPageInKinds_7 : decode cX5_startPageInKinds 7 = .ok (.if_icmp .ge 23, 3) := by decide +kernel
theorem dX5_startPageInKinds_10 : decode cX5_startPageInKinds 10 = .ok (.aload_n 0, 1) := by decide +kernel
theorem dX5_startPageInKinds_11 : decode cX5_startPageInKinds 11 = .ok (.iload_n 1, 1) := by decide +kernel
theorem dX5_startPageInKinds_12 : decode cX5_startPageInKinds 12 = .ok (.invokevirtual 57, 3) := by decide +kernel
theorem dX5_startPageInKinds_15 : decode cX5_startPageInKinds 15 = .ok (.astore_n 2, 1) := by decide +kernel
theorem dX5_startPageInKinds_16 : decode cX5_startPageInKinds 16 = .ok (.aload_n 2, 1) := by decide +kernel
theorem dX5_startPageInKinds_17 : decode cX5_startPageInKinds 17 = .ok (.ifnull 7, 3) := by decide +kernel
theorem dX5_startPageInKinds_20 : decode cX5_startPageInKinds 20 = .ok (.aload_n 2, 1) := by decide +kernel
theorem dX5_startPageInKinds_21 : decode cX5_startPageInKinds 21 = .ok (.invokevirtual 186, 3) := by decide +kernel
theorem dX5_startPageInKinds_24 : decode cX5_startPageInKinds 24 = .ok (.iinc 1 1, 3) := by decide +kernel
theorem dX5_startPageInKinds_27 : decode cX5_startPageInKinds 27 = .ok (.goto (-25), 3) := by decide +kernel
theorem dX5_startPageInKinds_30 : decode cX5_startPageInKinds 30 = .ok (.return_, 1) := by decide +kernel
theorem dX5_goThrough_0 : decode cX5_goThrough 0 = .ok (.aload_n 2, 1) := by decide +kernel
theorem dX5_goThrough_1 : decode cX5_goThrough 1 = .ok (.getfield 189, 3) := by decide +kernel
theorem dX5_goThrough_4 : decode cX5_goThrough 4 = .ok (.astore_n 3, 1) := by decide +kernel
theorem dX5_goThrough_5 : decode cX5_goThrough 5 = .ok (.aload_n 3, 1) := by decide +kernel
theorem dX5_goThrough_6 : decode cX5_goThrough 6 = .ok (.getfield 193, 3) := by decide +kernel
theorem dX5_goThrough_9 : decode cX5_goThrough 9 = .ok (.ifCond .eq 5, 3) := by decide +kernel
theorem dX5_goThrough_12 : decode cX5_goThrough 12 = .ok (.iconst 1, 1) := by decide +kernel
theorem dX5_goThrough_13 : decode cX5_goThrough 13 = .ok (.ireturn, 1) := by decide +kernel
theorem dX5_goThrough_14 : decode cX5_goThrough 14 = .ok (.aload_n 0, 1) := by decide +kernel
theorem dX5_goThrough_15 : decode cX5_goThrough 15 = .ok (.aload_n 1, 1) := by decide +kernel
theorem dX5_goThrough_16 : decode cX5_goThrough 16 = .ok (.aload_n 3, 1) := by decide +kernel
theorem dX5_goThrough_17 : decode cX5_goThrough 17 = .ok (.invokevirtual 196, 3) := by decide +kernel
theorem dX5_goThrough_20 : decode cX5_goThrough 20 = .ok (.istore 4, 2) := by decide +kernel
theorem dX5_goThrough_22 : decode cX5_goThrough 22 = .ok (.aload_n 2, 1) := by decide +kernel
theorem dX5_goThrough_23 : decode cX5_goThrough 23 = .ok (.getfield 102, 3) := by decide +kernel
theorem dX5_goThrough_26 : decode cX5_goThrough 26 = .ok (.iload 4, 2) := by decide +kernel
theorem dX5_goThrough_28 : decode cX5_goThrough 28 = .ok (.if_icmp .gt 16, 3) := by decide +kernel
theorem dX5_goThrough_31 : decode cX5_goThrough 31 = .ok (.aload_n 1, 1) := by decide +kernel
theorem dX5_goThrough_32 : decode cX5_goThrough 32 = .ok (.aload_n 2, 1) := by decide +kernel
theorem dX5_goThrough_33 : decode cX5_goThrough 33 = .ok (.aload_n 2, 1) := by decide +kernel
theorem dX5_goThrough_34 : decode cX5_goThrough 34 = .ok (.getfield 102, 3) := by decide +kernel
theorem dX5_goThrough_37 : decode cX5_goThrough 37 = .ok (.iconst 0, 1) := by decide +kernel
theorem dX5_goThrough_38 : decode cX5_goThrough 38 = .ok (.invokevirtual 200, 3) := by decide +kernel
theorem dX5_goThrough_41 : decode cX5_goThrough 41 = .ok (.goto 57, 3) := by decide +kernel
theorem dX5_goThrough_44 : decode cX5_goThrough 44 = .ok (.aload_n 3, 1) := by decide +kernel
theorem dX5_goThrough_45 : decode cX5_goThrough 45 = .ok (.aload_n 2, 1) := by decide +kernel
theorem dX5_goThrough_46 : decode cX5_goThrough 46 = .ok (.getfield 102, 3) := by decide +kernel
theorem dX5_goThrough_49 : decode cX5_goThrough 49 = .ok (.iload 4, 2) := by decide +kernel
theorem dX5_goThrough_51 : decode cX5_goThrough 51 = .ok (.invokevirtual 204, 3) := by decide +kernel
theorem dX5_goThrough_54 : decode cX5_goThrough 54 = .ok (.ifCond .eq 19, 3) := by decide +kernel
theorem dX5_goThrough_57 : decode cX5_goThrough 57 = .ok (.aload_n 1, 1) := by decide +kernel
theorem dX5_goThrough_58 : decode cX5_goThrough 58 = .ok (.aload_n 2, 1) := by decide +kernel
theorem dX5_goThrough_59 : decode cX5_goThrough 59 = .ok (.iload 4, 2) := by decide +kernel
theorem dX5_goThrough_61 : decode cX5_goThrough 61 = .ok (.iconst 0, 1) := by decide +kernel
theorem dX5_goThrough_62 : decode cX5_goThrough 62 = .ok (.invokevirtual 200, 3) := by decide +kernel
theorem dX5_goThrough_65 : decode cX5_goThrough 65 = .ok (.aload_n 3, 1) := by decide +kernel
theorem dX5_goThrough_66 : decode cX5_goThrough 66 = .ok (.iconst 1, 1) := by decide +kernel
theorem dX5_goThrough_67 : decode cX5_goThrough 67 = .ok (.putfield 193, 3) := by decide +kernel
theorem dX5_goThrough_70 : decode cX5_goThrough 70 = .ok (.goto 28, 3) := by decide +kernel
theorem dX5_goThrough_73 : decode cX5_goThrough 73 = .ok (.aload_n 1, 1) := by decide +kernel
theorem dX5_goThrough_74 : decode cX5_goThrough 74 = .ok (.getfield 150, 3) := by decide +kernel
theorem dX5_goThrough_77 : decode cX5_goThrough 77 = .ok (.ifCond .ne 16, 3) := by decide +kernel
theorem dX5_goThrough_80 : decode cX5_goThrough 80 = .ok (.aload_n 1, 1) := by decide +kernel
theorem dX5_goThrough_81 : decode cX5_goThrough 81 = .ok (.aload_n 2, 1) := by decide +kernel
theorem dX5_goThrough_82 : decode cX5_goThrough 82 = .ok (.aload_n 2, 1) := by decide +kernel
theorem dX5_goThrough_83 : decode cX5_goThrough 83 = .ok (.getfield 102, 3) := by decide +kernel
theorem dX5_goThrough_86 : decode cX5_goThrough 86 = .ok (.iconst 1, 1) := by decide +kernel
theorem dX5_goThrough_87 : decode cX5_goThrough 87 = .ok (.invokevirtual 200, 3) := by decide +kernel
theorem dX5_goThrough_90 : decode cX5_goThrough 90 = .ok (.goto 8, 3) := by decide +kernel
theorem dX5_goThrough_93 : decode cX5_goThrough 93 = .ok (.aload_n 3, 1) := by decide +kernel
theorem dX5_goThrough_94 : decode cX5_goThrough 94 = .ok (.iconst 1, 1) := by decide +kernel
theorem dX5_goThrough_95 : decode cX5_goThrough 95 = .ok (.putfield 193, 3) := by decide +kernel
theorem dX5_goThrough_98 : decode cX5_goThrough 98 = .ok (.aload_n 3, 1) := by decide +kernel
theorem dX5_goThrough_99 : decode cX5_goThrough 99 = .ok (.getfield 193, 3) := by decide +kernel
theorem dX5_goThrough_102 : decode cX5_goThrough 102 = .ok (.ireturn, 1) := by decide +kernel
theorem dX5_freeOn_0 : decode cX5_freeOn 0 = .ok (.aload_n 2, 1) := by decide +kernel
theorem dX5_freeOn_1 : decode cX5_freeOn 1 = .ok (.getfield 208, 3) := by decide +kernel
theorem dX5_freeOn_4 : decode cX5_freeOn 4 = .ok (.aload_n 2, 1) := by decide +kernel
theorem dX5_freeOn_5 : decode cX5_freeOn 5 = .ok (.getfield 146, 3) := by decide +kernel
theorem dX5_freeOn_8 : decode cX5_freeOn 8 = .ok (.aload_n 1, 1) := by decide +kernel
theorem dX5_freeOn_9 : decode cX5_freeOn 9 = .ok (.getfield 211, 3) := by decide +kernel
theorem dX5_freeOn_12 : decode cX5_freeOn 12 = .ok (.iaload, 1) := by decide +kernel
theorem dX5_freeOn_13 : decode cX5_freeOn 13 = .ok (.isub, 1) := by decide +kernel
theorem dX5_freeOn_14 : decode cX5_freeOn 14 = .ok (.istore_n 3, 1) := by decide +kernel
theorem dX5_freeOn_15 : decode cX5_freeOn 15 = .ok (.aload_n 0, 1) := by decide +kernel
theorem dX5_freeOn_16 : decode cX5_freeOn 16 = .ok (.getfield 43, 3) := by decide +kernel
theorem dX5_freeOn_19 : decode cX5_freeOn 19 = .ok (.aload_n 1, 1) := by decide +kernel
theorem dX5_freeOn_20 : decode cX5_freeOn 20 = .ok (.getfield 150, 3) := by decide +kernel
theorem dX5_freeOn_23 : decode cX5_freeOn 23 = .ok (.isub, 1) := by decide +kernel
theorem dX5_freeOn_24 : decode cX5_freeOn 24 = .ok (.istore 4, 2) := by decide +kernel
theorem dX5_freeOn_26 : decode cX5_freeOn 26 = .ok (.iconst 0, 1) := by decide +kernel
theorem dX5_freeOn_27 : decode cX5_freeOn 27 = .ok (.iload_n 3, 1) := by decide +kernel
theorem dX5_freeOn_28 : decode cX5_freeOn 28 = .ok (.iload 4, 2) := by decide +kernel
theorem dX5_freeOn_30 : decode cX5_freeOn 30 = .ok (.invokestatic 34, 3) := by decide +kernel
theorem dX5_freeOn_33 : decode cX5_freeOn 33 = .ok (.invokestatic 40, 3) := by decide +kernel
theorem dX5_freeOn_36 : decode cX5_freeOn 36 = .ok (.ireturn, 1) := by decide +kernel
theorem dX0_init_0 : decode cX0_init 0 = .ok (.aload_n 0, 1) := by decide +kernel
theorem dX0_init_1 : decode cX0_init 1 = .ok (.invokespecial 3, 3) := by decide +kernel
theorem dX0_init_4 : decode cX0_init 4 = .ok (.aload_n 0, 1) := by decide +kernel
theorem dX0_init_5 : decode cX0_init 5 = .ok (.iconst (-1), 1) := by decide +kernel
theorem dX0_init_6 : decode cX0_init 6 = .ok (.putfield 9, 3) := by decide +kernel
theorem dX0_init_9 : decode cX0_init 9 = .ok (.aload_n 0, 1) := by decide +kernel
theorem dX0_init_10 : decode cX0_init 10 = .ok (.iconst (-1), 1) := by decide +kernel
theorem dX0_init_11 : decode cX0_init 11 = .ok (.putfield 15, 3) := by decide +kernel
theorem dX0_init_14 : decode cX0_init 14 = .ok (.aload_n 0, 1) := by decide +kernel
theorem dX0_init_15 : decode cX0_init 15 = .ok (.iconst (-1), 1) := by decide +kernel
theorem dX0_init_16 : decode cX0_init 16 = .ok (.putfield 18, 3) := by decide +kernel
theorem dX0_init_19 : decode cX0_init 19 = .ok (.aload_n 0, 1) := by decide +kernel
theorem dX0_init_20 : decode cX0_init 20 = .ok (.iload_n 1, 1) := by decide +kernel
theorem dX0_init_21 : decode cX0_init 21 = .ok (.putfield 21, 3) := by decide +kernel
theorem dX0_init_24 : decode cX0_init 24 = .ok (.aload_n 0, 1) := by decide +kernel
theorem dX0_init_25 : decode cX0_init 25 = .ok (.aload_n 2, 1) := by decide +kernel
theorem dX0_init_26 : decode cX0_init 26 = .ok (.putfield 24, 3) := by decide +kernel
theorem dX0_init_29 : decode cX0_init 29 = .ok (.aload_n 0, 1) := by decide +kernel
theorem dX0_init_30 : decode cX0_init 30 = .ok (.iload 4, 2) := by decide +kernel
theorem dX0_init_32 : decode cX0_init 32 = .ok (.putfield 28, 3) := by decide +kernel
theorem dX0_init_35 : decode cX0_init 35 = .ok (.aload_n 0, 1) := by decide +kernel
theorem dX0_init_36 : decode cX0_init 36 = .ok (.iload_n 3, 1) := by decide +kernel
theorem dX0_init_37 : decode cX0_init 37 = .ok (.putfield 31, 3) := by decide +kernel
theorem dX0_init_40 : decode cX0_init 40 = .ok (.return_, 1) := by decide +kernel
theorem dX0_isTakenBack_0 : decode cX0_isTakenBack 0 = .ok (.aload_n 0, 1) := by decide +kernel
theorem dX0_isTakenBack_1 : decode cX0_isTakenBack 1 = .ok (.getfield 31, 3) := by decide +kernel
theorem dX0_isTakenBack_4 : decode cX0_isTakenBack 4 = .ok (.ifCond .ne 14, 3) := by decide +kernel
theorem dX0_isTakenBack_7 : decode cX0_isTakenBack 7 = .ok (.aload_n 0, 1) := by decide +kernel
theorem dX0_isTakenBack_8 : decode cX0_isTakenBack 8 = .ok (.getfield 34, 3) := by decide +kernel
theorem dX0_isTakenBack_11 : decode cX0_isTakenBack 11 = .ok (.ifCond .ne 7, 3) := by decide +kernel
theorem dX0_isTakenBack_14 : decode cX0_isTakenBack 14 = .ok (.iconst 1, 1) := by decide +kernel
theorem dX0_isTakenBack_15 : decode cX0_isTakenBack 15 = .ok (.goto 4, 3) := by decide +kernel
theorem dX0_isTakenBack_18 : decode cX0_isTakenBack 18 = .ok (.iconst 0, 1) := by decide +kernel
theorem dX0_isTakenBack_19 : decode cX0_isTakenBack 19 = .ok (.ireturn, 1) := by decide +kernel
theorem dX0_addPart_0 : decode cX0_addPart 0 = .ok (.aload_n 0, 1) := by decide +kernel
theorem dX0_addPart_1 : decode cX0_addPart 1 = .ok (.getfield 34, 3) := by decide +kernel
theorem dX0_addPart_4 : decode cX0_addPart 4 = .ok (.ifCond .ne 19, 3) := by decide +kernel
theorem dX0_addPart_7 : decode cX0_addPart 7 = .ok (.aload_n 0, 1) := by decide +kernel
theorem dX0_addPart_8 : decode cX0_addPart 8 = .ok (.iload_n 1, 1) := by decide +kernel
theorem dX0_addPart_9 : decode cX0_addPart 9 = .ok (.putfield 15, 3) := by decide +kernel
theorem dX0_addPart_12 : decode cX0_addPart 12 = .ok (.aload_n 0, 1) := by decide +kernel
theorem dX0_addPart_13 : decode cX0_addPart 13 = .ok (.aload_n 0, 1) := by decide +kernel
theorem dX0_addPart_14 : decode cX0_addPart 14 = .ok (.getfield 24, 3) := by decide +kernel
theorem dX0_addPart_17 : decode cX0_addPart 17 = .ok (.invokevirtual 37, 3) := by decide +kernel
theorem dX0_addPart_20 : decode cX0_addPart 20 = .ok (.putfield 9, 3) := by decide +kernel
theorem dX0_addPart_23 : decode cX0_addPart 23 = .ok (.aload_n 0, 1) := by decide +kernel
theorem dX0_addPart_24 : decode cX0_addPart 24 = .ok (.iload_n 1, 1) := by decide +kernel
theorem dX0_addPart_25 : decode cX0_addPart 25 = .ok (.putfield 18, 3) := by decide +kernel
theorem dX0_addPart_28 : decode cX0_addPart 28 = .ok (.aload_n 0, 1) := by decide +kernel
theorem dX0_addPart_29 : decode cX0_addPart 29 = .ok (.dup, 1) := by decide +kernel
theorem dX0_addPart_30 : decode cX0_addPart 30 = .ok (.getfield 34, 3) := by decide +kernel
theorem dX0_addPart_33 : decode cX0_addPart 33 = .ok (.iconst 1, 1) := by decide +kernel
theorem dX0_addPart_34 : decode cX0_addPart 34 = .ok (.iadd, 1) := by decide +kernel
theorem dX0_addPart_35 : decode cX0_addPart 35 = .ok (.putfield 34, 3) := by decide +kernel
theorem dX0_addPart_38 : decode cX0_addPart 38 = .ok (.aload_n 0, 1) := by decide +kernel
theorem dX0_addPart_39 : decode cX0_addPart 39 = .ok (.dup, 1) := by decide +kernel
theorem dX0_addPart_40 : decode cX0_addPart 40 = .ok (.getfield 31, 3) := by decide +kernel
theorem dX0_addPart_43 : decode cX0_addPart 43 = .ok (.iload_n 2, 1) := by decide +kernel
theorem dX0_addPart_44 : decode cX0_addPart 44 = .ok (.isub, 1) := by decide +kernel
theorem dX0_addPart_45 : decode cX0_addPart 45 = .ok (.putfield 31, 3) := by decide +kernel
theorem dX0_addPart_48 : decode cX0_addPart 48 = .ok (.return_, 1) := by decide +kernel
theorem dX1_init_0 : decode cX1_init 0 = .ok (.aload_n 0, 1) := by decide +kernel
theorem dX1_init_1 : decode cX1_init 1 = .ok (.invokespecial 3, 3) := by decide +kernel
theorem dX1_init_4 : decode cX1_init 4 = .ok (.aload_n 0, 1) := by decide +kernel
theorem dX1_init_5 : decode cX1_init 5 = .ok (.bipush 40, 2) := by decide +kernel
theorem dX1_init_7 : decode cX1_init 7 = .ok (.newarray .int, 2) := by decide +kernel
theorem dX1_init_9 : decode cX1_init 9 = .ok (.putfield 9, 3) := by decide +kernel
theorem dX1_init_12 : decode cX1_init 12 = .ok (.aload_n 0, 1) := by decide +kernel
theorem dX1_init_13 : decode cX1_init 13 = .ok (.bipush 40, 2) := by decide +kernel
theorem dX1_init_15 : decode cX1_init 15 = .ok (.newarray .boolean, 2) := by decide +kernel
theorem dX1_init_17 : decode cX1_init 17 = .ok (.putfield 15, 3) := by decide +kernel
theorem dX1_init_20 : decode cX1_init 20 = .ok (.aload_n 0, 1) := by decide +kernel
theorem dX1_init_21 : decode cX1_init 21 = .ok (.bipush 40, 2) := by decide +kernel
theorem dX1_init_23 : decode cX1_init 23 = .ok (.newarray .int, 2) := by decide +kernel
theorem dX1_init_25 : decode cX1_init 25 = .ok (.putfield 19, 3) := by decide +kernel
theorem dX1_init_28 : decode cX1_init 28 = .ok (.aload_n 0, 1) := by decide +kernel
theorem dX1_init_29 : decode cX1_init 29 = .ok (.bipush 40, 2) := by decide +kernel
theorem dX1_init_31 : decode cX1_init 31 = .ok (.newarray .int, 2) := by decide +kernel
theorem dX1_init_33 : decode cX1_init 33 = .ok (.putfield 22, 3) := by decide +kernel
theorem dX1_init_36 : decode cX1_init 36 = .ok (.aload_n 0, 1) := by decide +kernel
theorem dX1_init_37 : decode cX1_init 37 = .ok (.iload_n 1, 1) := by decide +kernel
theorem dX1_init_38 : decode cX1_init 38 = .ok (.putfield 25, 3) := by decide +kernel
theorem dX1_init_41 : decode cX1_init 41 = .ok (.aload_n 0, 1) := by decide +kernel
theorem dX1_init_42 : decode cX1_init 42 = .ok (.iload_n 2, 1) := by decide +kernel
theorem dX1_init_43 : decode cX1_init 43 = .ok (.putfield 29, 3) := by decide +kernel
theorem dX1_init_46 : decode cX1_init 46 = .ok (.aload_n 0, 1) := by decide +kernel
theorem dX1_init_47 : decode cX1_init 47 = .ok (.iload_n 3, 1) := by decide +kernel
theorem dX1_init_48 : decode cX1_init 48 = .ok (.putfield 32, 3) := by decide +kernel
theorem dX1_init_51 : decode cX1_init 51 = .ok (.return_, 1) := by decide +kernel
theorem dX1_startPage_0 : decode cX1_startPage 0 = .ok (.aload_n 0, 1) := by decide +kernel
theorem dX1_startPage_1 : decode cX1_startPage 1 = .ok (.iconst 0, 1) := by decide +kernel
theorem dX1_startPage_2 : decode cX1_startPage 2 = .ok (.putfield 36, 3) := by decide +kernel
theorem dX1_startPage_5 : decode cX1_startPage 5 = .ok (.aload_n 0, 1) := by decide +kernel
theorem dX1_startPage_6 : decode cX1_startPage 6 = .ok (.getfield 32, 3) := by decide +kernel
theorem dX1_startPage_9 : decode cX1_startPage 9 = .ok (.ifCond .eq 8, 3) := by decide +kernel
theorem dX1_startPage_12 : decode cX1_startPage 12 = .ok (.aload_n 0, 1) := by decide +kernel
theorem dX1_startPage_13 : decode cX1_startPage 13 = .ok (.iconst 0, 1) := by decide +kernel
theorem dX1_startPage_14 : decode cX1_startPage 14 = .ok (.putfield 39, 3) := by decide +kernel
theorem dX1_startPage_17 : decode cX1_startPage 17 = .ok (.return_, 1) := by decide +kernel
theorem dX1_mayCut_0 : decode cX1_mayCut 0 = .ok (.aload_n 0, 1) := by decide +kernel
theorem dX1_mayCut_1 : decode cX1_mayCut 1 = .ok (.getfield 29, 3) := by decide +kernel
theorem dX1_mayCut_4 : decode cX1_mayCut 4 = .ok (.ifCond .le 25, 3) := by decide +kernel
theorem dX1_mayCut_7 : decode cX1_mayCut 7 = .ok (.iload_n 2, 1) := by decide +kernel
theorem dX1_mayCut_8 : decode cX1_mayCut 8 = .ok (.aload_n 0, 1) := by decide +kernel
theorem dX1_mayCut_9 : decode cX1_mayCut 9 = .ok (.getfield 29, 3) := by decide +kernel
theorem dX1_mayCut_12 : decode cX1_mayCut 12 = .ok (.if_icmp .lt 17, 3) := by decide +kernel
theorem dX1_mayCut_15 : decode cX1_mayCut 15 = .ok (.iload_n 1, 1) := by decide +kernel
theorem dX1_mayCut_16 : decode cX1_mayCut 16 = .ok (.iload_n 2, 1) := by decide +kernel
theorem dX1_mayCut_17 : decode cX1_mayCut 17 = .ok (.isub, 1) := by decide +kernel
theorem dX1_mayCut_18 : decode cX1_mayCut 18 = .ok (.aload_n 0, 1) := by decide +kernel
theorem dX1_mayCut_19 : decode cX1_mayCut 19 = .ok (.getfield 29, 3) := by decide +kernel
theorem dX1_mayCut_22 : decode cX1_mayCut 22 = .ok (.if_icmp .lt 7, 3) := by decide +kernel
theorem dX1_mayCut_25 : decode cX1_mayCut 25 = .ok (.iconst 1, 1) := by decide +kernel
theorem dX1_mayCut_26 : decode cX1_mayCut 26 = .ok (.goto 4, 3) := by decide +kernel
theorem dX1_mayCut_29 : decode cX1_mayCut 29 = .ok (.iconst 0, 1) := by decide +kernel
theorem dX1_mayCut_30 : decode cX1_mayCut 30 = .ok (.ireturn, 1) := by decide +kernel
theorem dX1_nextNumber_0 : decode cX1_nextNumber 0 = .ok (.aload_n 0, 1) := by decide +kernel
theorem dX1_nextNumber_1 : decode cX1_nextNumber 1 = .ok (.dup, 1) := by decide +kernel
theorem dX1_nextNumber_2 : decode cX1_nextNumber 2 = .ok (.getfield 39, 3) := by decide +kernel
theorem dX1_nextNumber_5 : decode cX1_nextNumber 5 = .ok (.iconst 1, 1) := by decide +kernel
theorem dX1_nextNumber_6 : decode cX1_nextNumber 6 = .ok (.iadd, 1) := by decide +kernel
theorem dX1_nextNumber_7 : decode cX1_nextNumber 7 = .ok (.putfield 39, 3) := by decide +kernel
theorem dX1_nextNumber_10 : decode cX1_nextNumber 10 = .ok (.aload_n 0, 1) := by decide +kernel
theorem dX1_nextNumber_11 : decode cX1_nextNumber 11 = .ok (.getfield 39, 3) := by decide +kernel
theorem dX1_nextNumber_14 : decode cX1_nextNumber 14 = .ok (.ireturn, 1) := by decide +kernel
theorem dX1_addMark_0 : decode cX1_addMark 0 = .ok (.aload_n 0, 1) := by decide +kernel
theorem dX1_addMark_1 : decode cX1_addMark 1 = .ok (.getfield 15, 3) := by decide +kernel
theorem dX1_addMark_4 : decode cX1_addMark 4 = .ok (.iload_n 1, 1) := by decide +kernel
theorem dX1_addMark_5 : decode cX1_addMark 5 = .ok (.baload, 1) := by decide +kernel
theorem dX1_addMark_6 : decode cX1_addMark 6 = .ok (.ifCond .ne 17, 3) := by decide +kernel
theorem dX1_addMark_9 : decode cX1_addMark 9 = .ok (.aload_n 0, 1) := by decide +kernel
theorem dX1_addMark_10 : decode cX1_addMark 10 = .ok (.getfield 15, 3) := by decide +kernel
theorem dX1_addMark_13 : decode cX1_addMark 13 = .ok (.iload_n 1, 1) := by decide +kernel
theorem dX1_addMark_14 : decode cX1_addMark 14 = .ok (.iconst 1, 1) := by decide +kernel
theorem dX1_addMark_15 : decode cX1_addMark 15 = .ok (.bastore, 1) := by decide +kernel
theorem dX1_addMark_16 : decode cX1_addMark 16 = .ok (.aload_n 0, 1) := by decide +kernel
theorem dX1_addMark_17 : decode cX1_addMark 17 = .ok (.getfield 19, 3) := by decide +kernel
theorem dX1_addMark_20 : decode cX1_addMark 20 = .ok (.iload_n 1, 1) := by decide +kernel
theorem dX1_addMark_21 : decode cX1_addMark 21 = .ok (.iload_n 2, 1) := by decide +kernel
theorem dX1_addMark_22 : decode cX1_addMark 22 = .ok (.iastore, 1) := by decide +kernel
theorem dX1_addMark_23 : decode cX1_addMark 23 = .ok (.aload_n 0, 1) := by decide +kernel
theorem dX1_addMark_24 : decode cX1_addMark 24 = .ok (.getfield 22, 3) := by decide +kernel
theorem dX1_addMark_27 : decode cX1_addMark 27 = .ok (.iload_n 1, 1) := by decide +kernel
theorem dX1_addMark_28 : decode cX1_addMark 28 = .ok (.iload_n 2, 1) := by decide +kernel
theorem dX1_addMark_29 : decode cX1_addMark 29 = .ok (.iastore, 1) := by decide +kernel
theorem dX1_addMark_30 : decode cX1_addMark 30 = .ok (.return_, 1) := by decide +kernel
theorem dX1_topMark_0 : decode cX1_topMark 0 = .ok (.iload_n 1, 1) := by decide +kernel
theorem dX1_topMark_1 : decode cX1_topMark 1 = .ok (.iconst 1, 1) := by decide +kernel
theorem dX1_topMark_2 : decode cX1_topMark 2 = .ok (.isub, 1) := by decide +kernel
theorem dX1_topMark_3 : decode cX1_topMark 3 = .ok (.istore_n 2, 1) := by decide +kernel
theorem dX1_topMark_4 : decode cX1_topMark 4 = .ok (.iload_n 2, 1) := by decide +kernel
theorem dX1_topMark_5 : decode cX1_topMark 5 = .ok (.ifCond .lt 25, 3) := by decide +kernel
theorem dX1_topMark_8 : decode cX1_topMark 8 = .ok (.aload_n 0, 1) := by decide +kernel
theorem dX1_topMark_9 : decode cX1_topMark 9 = .ok (.getfield 15, 3) := by decide +kernel
theorem dX1_topMark_12 : decode cX1_topMark 12 = .ok (.iload_n 2, 1) := by decide +kernel
theorem dX1_topMark_13 : decode cX1_topMark 13 = .ok (.baload, 1) := by decide +kernel
theorem dX1_topMark_14 : decode cX1_topMark 14 = .ok (.ifCond .eq 10, 3) := by decide +kernel
theorem dX1_topMark_17 : decode cX1_topMark 17 = .ok (.aload_n 0, 1) := by decide +kernel
theorem dX1_topMark_18 : decode cX1_topMark 18 = .ok (.getfield 22, 3) := by decide +kernel
theorem dX1_topMark_21 : decode cX1_topMark 21 = .ok (.iload_n 2, 1) := by decide +kernel
theorem dX1_topMark_22 : decode cX1_topMark 22 = .ok (.iaload, 1) := by decide +kernel
theorem dX1_topMark_23 : decode cX1_topMark 23 = .ok (.ireturn, 1) := by decide +kernel
theorem dX1_topMark_24 : decode cX1_topMark 24 = .ok (.iinc 2 (-1), 3) := by decide +kernel
theorem dX1_topMark_27 : decode cX1_topMark 27 = .ok (.goto (-23), 3) := by decide +kernel
theorem dX1_topMark_30 : decode cX1_topMark 30 = .ok (.iconst 0, 1) := by decide +kernel
theorem dX1_topMark_31 : decode cX1_topMark 31 = .ok (.ireturn, 1) := by decide +kernel
theorem dX1_firstMark_0 : decode cX1_firstMark 0 = .ok (.aload_n 0, 1) := by decide +kernel
theorem dX1_firstMark_1 : decode cX1_firstMark 1 = .ok (.getfield 15, 3) := by decide +kernel
theorem dX1_firstMark_4 : decode cX1_firstMark 4 = .ok (.iload_n 1, 1) := by decide +kernel
theorem dX1_firstMark_5 : decode cX1_firstMark 5 = .ok (.baload, 1) := by decide +kernel
theorem dX1_firstMark_6 : decode cX1_firstMark 6 = .ok (.ifCond .eq 12, 3) := by decide +kernel
theorem dX1_firstMark_9 : decode cX1_firstMark 9 = .ok (.aload_n 0, 1) := by decide +kernel
theorem dX1_firstMark_10 : decode cX1_firstMark 10 = .ok (.getfield 19, 3) := by decide +kernel
theorem dX1_firstMark_13 : decode cX1_firstMark 13 = .ok (.iload_n 1, 1) := by decide +kernel
theorem dX1_firstMark_14 : decode cX1_firstMark 14 = .ok (.iaload, 1) := by decide +kernel
theorem dX1_firstMark_15 : decode cX1_firstMark 15 = .ok (.goto 8, 3) := by decide +kernel
theorem dX1_firstMark_18 : decode cX1_firstMark 18 = .ok (.aload_n 0, 1) := by decide +kernel
theorem dX1_firstMark_19 : decode cX1_firstMark 19 = .ok (.iload_n 1, 1) := by decide +kernel
theorem dX1_firstMark_20 : decode cX1_firstMark 20 = .ok (.invokevirtual 42, 3) := by decide +kernel
theorem dX1_firstMark_23 : decode cX1_firstMark 23 = .ok (.ireturn, 1) := by decide +kernel
theorem dX1_lastMark_0 : decode cX1_lastMark 0 = .ok (.aload_n 0, 1) := by decide +kernel
theorem dX1_lastMark_1 : decode cX1_lastMark 1 = .ok (.getfield 15, 3) := by decide +kernel
theorem dX1_lastMark_4 : decode cX1_lastMark 4 = .ok (.iload_n 1, 1) := by decide +kernel
theorem dX1_lastMark_5 : decode cX1_lastMark 5 = .ok (.baload, 1) := by decide +kernel
theorem dX1_lastMark_6 : decode cX1_lastMark 6 = .ok (.ifCond .eq 12, 3) := by decide +kernel
theorem dX1_lastMark_9 : decode cX1_lastMark 9 = .ok (.aload_n 0, 1) := by decide +kernel
theorem dX1_lastMark_10 : decode cX1_lastMark 10 = .ok (.getfield 22, 3) := by decide +kernel
theorem dX1_lastMark_13 : decode cX1_lastMark 13 = .ok (.iload_n 1, 1) := by decide +kernel
theorem dX1_lastMark_14 : decode cX1_lastMark 14 = .ok (.iaload, 1) := by decide +kernel
theorem dX1_lastMark_15 : decode cX1_lastMark 15 = .ok (.goto 8, 3) := by decide +kernel
theorem dX1_lastMark_18 : decode cX1_lastMark 18 = .ok (.aload_n 0, 1) := by decide +kernel
theorem dX1_lastMark_19 : decode cX1_lastMark 19 = .ok (.iload_n 1, 1) := by decide +kernel
theorem dX1_lastMark_20 : decode cX1_lastMark 20 = .ok (.invokevirtual 42, 3) := by decide +kernel
theorem dX1_lastMark_23 : decode cX1_lastMark 23 = .ok (.ireturn, 1) := by decide +kernel
theorem dX2_init_0 : decode cX2_init 0 = .ok (.aload_n 0, 1) := by decide +kernel
theorem dX2_init_1 : decode cX2_init 1 = .ok (.invokespecial 3, 3) := by decide +kernel
theorem dX2_init_4 : decode cX2_init 4 = .ok (.aload_n 0, 1) := by decide +kernel
theorem dX2_init_5 : decode cX2_init 5 = .ok (.sipush 200, 3) := by decide +kernel
theorem dX2_init_8 : decode cX2_init 8 = .ok (.newarray .int, 2) := by decide +kernel
theorem dX2_init_10 : decode cX2_init 10 = .ok (.putfield 9, 3) := by decide +kernel
theorem dX2_init_13 : decode cX2_init 13 = .ok (.return_, 1) := by decide +kernel
theorem dX2_append_0 : decode cX2_append 0 = .ok (.aload_n 0, 1) := by decide +kernel
theorem dX2_append_1 : decode cX2_append 1 = .ok (.getfield 15, 3) := by decide +kernel
theorem dX2_append_4 : decode cX2_append 4 = .ok (.aload_n 0, 1) := by decide +kernel
theorem dX2_append_5 : decode cX2_append 5 = .ok (.getfield 9, 3) := by decide +kernel
theorem dX2_append_8 : decode cX2_append 8 = .ok (.arraylength, 1) := by decide +kernel
theorem dX2_append_9 : decode cX2_append 9 = .ok (.if_icmp .ge 23, 3) := by decide +kernel
theorem dX2_append_12 : decode cX2_append 12 = .ok (.aload_n 0, 1) := by decide +kernel
theorem dX2_append_13 : decode cX2_append 13 = .ok (.getfield 9, 3) := by decide +kernel
theorem dX2_append_16 : decode cX2_append 16 = .ok (.aload_n 0, 1) := by decide +kernel
theorem dX2_append_17 : decode cX2_append 17 = .ok (.getfield 15, 3) := by decide +kernel
theorem dX2_append_20 : decode cX2_append 20 = .ok (.iload_n 1, 1) := by decide +kernel
theorem dX2_append_21 : decode cX2_append 21 = .ok (.iastore, 1) := by decide +kernel
theorem dX2_append_22 : decode cX2_append 22 = .ok (.aload_n 0, 1) := by decide +kernel
theorem dX2_append_23 : decode cX2_append 23 = .ok (.dup, 1) := by decide +kernel
theorem dX2_append_24 : decode cX2_append 24 = .ok (.getfield 15, 3) := by decide +kernel
theorem dX2_append_27 : decode cX2_append 27 = .ok (.iconst 1, 1) := by decide +kernel
theorem dX2_append_28 : decode cX2_append 28 = .ok (.iadd, 1) := by decide +kernel
theorem dX2_append_29 : decode cX2_append 29 = .ok (.putfield 15, 3) := by decide +kernel
theorem dX2_append_32 : decode cX2_append 32 = .ok (.return_, 1) := by decide +kernel
theorem dX2_indexAt_0 : decode cX2_indexAt 0 = .ok (.iload_n 1, 1) := by decide +kernel
theorem dX2_indexAt_1 : decode cX2_indexAt 1 = .ok (.iconst 0, 1) := by decide +kernel
theorem dX2_indexAt_2 : decode cX2_indexAt 2 = .ok (.aload_n 0, 1) := by decide +kernel
theorem dX2_indexAt_3 : decode cX2_indexAt 3 = .ok (.getfield 15, 3) := by decide +kernel
theorem dX2_indexAt_6 : decode cX2_indexAt 6 = .ok (.iconst 1, 1) := by decide +kernel
theorem dX2_indexAt_7 : decode cX2_indexAt 7 = .ok (.isub, 1) := by decide +kernel
theorem dX2_indexAt_8 : decode cX2_indexAt 8 = .ok (.invokestatic 19, 3) := by decide +kernel
theorem dX2_indexAt_11 : decode cX2_indexAt 11 = .ok (.ifCond .eq 12, 3) := by decide +kernel
theorem dX2_indexAt_14 : decode cX2_indexAt 14 = .ok (.aload_n 0, 1) := by decide +kernel
theorem dX2_indexAt_15 : decode cX2_indexAt 15 = .ok (.getfield 9, 3) := by decide +kernel
theorem dX2_indexAt_18 : decode cX2_indexAt 18 = .ok (.iload_n 1, 1) := by decide +kernel
theorem dX2_indexAt_19 : decode cX2_indexAt 19 = .ok (.iaload, 1) := by decide +kernel
theorem dX2_indexAt_20 : decode cX2_indexAt 20 = .ok (.goto 4, 3) := by decide +kernel
theorem dX2_indexAt_23 : decode cX2_indexAt 23 = .ok (.iconst (-1), 1) := by decide +kernel
theorem dX2_indexAt_24 : decode cX2_indexAt 24 = .ok (.ireturn, 1) := by decide +kernel
theorem dX2_takeOut_0 : decode cX2_takeOut 0 = .ok (.iconst 0, 1) := by decide +kernel
theorem dX2_takeOut_1 : decode cX2_takeOut 1 = .ok (.istore_n 2, 1) := by decide +kernel
theorem dX2_takeOut_2 : decode cX2_takeOut 2 = .ok (.iconst 0, 1) := by decide +kernel
theorem dX2_takeOut_3 : decode cX2_takeOut 3 = .ok (.istore_n 3, 1) := by decide +kernel
theorem dX2_takeOut_4 : decode cX2_takeOut 4 = .ok (.iload_n 3, 1) := by decide +kernel
theorem dX2_takeOut_5 : decode cX2_takeOut 5 = .ok (.aload_n 0, 1) := by decide +kernel
theorem dX2_takeOut_6 : decode cX2_takeOut 6 = .ok (.getfield 15, 3) := by decide +kernel
theorem dX2_takeOut_9 : decode cX2_takeOut 9 = .ok (.if_icmp .ge 34, 3) := by decide +kernel
theorem dX2_takeOut_12 : decode cX2_takeOut 12 = .ok (.aload_n 0, 1) := by decide +kernel
theorem dX2_takeOut_13 : decode cX2_takeOut 13 = .ok (.getfield 9, 3) := by decide +kernel
theorem dX2_takeOut_16 : decode cX2_takeOut 16 = .ok (.iload_n 3, 1) := by decide +kernel
theorem dX2_takeOut_17 : decode cX2_takeOut 17 = .ok (.iaload, 1) := by decide +kernel
theorem dX2_takeOut_18 : decode cX2_takeOut 18 = .ok (.iload_n 1, 1) := by decide +kernel
theorem dX2_takeOut_19 : decode cX2_takeOut 19 = .ok (.if_icmp .eq 18, 3) := by decide +kernel
theorem dX2_takeOut_22 : decode cX2_takeOut 22 = .ok (.aload_n 0, 1) := by decide +kernel
theorem dX2_takeOut_23 : decode cX2_takeOut 23 = .ok (.getfield 9, 3) := by decide +kernel
theorem dX2_takeOut_26 : decode cX2_takeOut 26 = .ok (.iload_n 2, 1) := by decide +kernel
theorem dX2_takeOut_27 : decode cX2_takeOut 27 = .ok (.aload_n 0, 1) := by decide +kernel
theorem dX2_takeOut_28 : decode cX2_takeOut 28 = .ok (.getfield 9, 3) := by decide +kernel
theorem dX2_takeOut_31 : decode cX2_takeOut 31 = .ok (.iload_n 3, 1) := by decide +kernel
theorem dX2_takeOut_32 : decode cX2_takeOut 32 = .ok (.iaload, 1) := by decide +kernel
theorem dX2_takeOut_33 : decode cX2_takeOut 33 = .ok (.iastore, 1) := by decide +kernel
theorem dX2_takeOut_34 : decode cX2_takeOut 34 = .ok (.iinc 2 1, 3) := by decide +kernel
theorem dX2_takeOut_37 : decode cX2_takeOut 37 = .ok (.iinc 3 1, 3) := by decide +kernel
theorem dX2_takeOut_40 : decode cX2_takeOut 40 = .ok (.goto (-36), 3) := by decide +kernel
theorem dX2_takeOut_43 : decode cX2_takeOut 43 = .ok (.aload_n 0, 1) := by decide +kernel
theorem dX2_takeOut_44 : decode cX2_takeOut 44 = .ok (.iload_n 2, 1) := by decide +kernel
theorem dX2_takeOut_45 : decode cX2_takeOut 45 = .ok (.putfield 15, 3) := by decide +kernel
theorem dX2_takeOut_48 : decode cX2_takeOut 48 = .ok (.return_, 1) := by decide +kernel
theorem dX3_init_0 : decode cX3_init 0 = .ok (.aload_n 0, 1) := by decide +kernel
theorem dX3_init_1 : decode cX3_init 1 = .ok (.invokespecial 1, 3) := by decide +kernel
theorem dX3_init_4 : decode cX3_init 4 = .ok (.aload_n 0, 1) := by decide +kernel
theorem dX3_init_5 : decode cX3_init 5 = .ok (.iload_n 1, 1) := by decide +kernel
theorem dX3_init_6 : decode cX3_init 6 = .ok (.putfield 7, 3) := by decide +kernel
theorem dX3_init_9 : decode cX3_init 9 = .ok (.aload_n 0, 1) := by decide +kernel
theorem dX3_init_10 : decode cX3_init 10 = .ok (.iconst 0, 1) := by decide +kernel
theorem dX3_init_11 : decode cX3_init 11 = .ok (.iload_n 2, 1) := by decide +kernel
theorem dX3_init_12 : decode cX3_init 12 = .ok (.invokestatic 13, 3) := by decide +kernel
theorem dX3_init_15 : decode cX3_init 15 = .ok (.anewarray 19, 3) := by decide +kernel
theorem dX3_init_18 : decode cX3_init 18 = .ok (.putfield 21, 3) := by decide +kernel
theorem dX3_init_21 : decode cX3_init 21 = .ok (.return_, 1) := by decide +kernel
theorem dX3_place_0 : decode cX3_place 0 = .ok (.aload_n 0, 1) := by decide +kernel
theorem dX3_place_1 : decode cX3_place 1 = .ok (.getfield 25, 3) := by decide +kernel
theorem dX3_place_4 : decode cX3_place 4 = .ok (.aload_n 0, 1) := by decide +kernel
theorem dX3_place_5 : decode cX3_place 5 = .ok (.getfield 21, 3) := by decide +kernel
theorem dX3_place_8 : decode cX3_place 8 = .ok (.arraylength, 1) := by decide +kernel
theorem dX3_place_9 : decode cX3_place 9 = .ok (.if_icmp .lt 4, 3) := by decide +kernel
theorem dX3_place_12 : decode cX3_place 12 = .ok (.return_, 1) := by decide +kernel
theorem dX3_place_13 : decode cX3_place 13 = .ok (.aload_n 1, 1) := by decide +kernel
theorem dX3_place_14 : decode cX3_place 14 = .ok (.aload_n 0, 1) := by decide +kernel
theorem dX3_place_15 : decode cX3_place 15 = .ok (.getfield 7, 3) := by decide +kernel
theorem dX3_place_18 : decode cX3_place 18 = .ok (.iload_n 2, 1) := by decide +kernel
theorem dX3_place_19 : decode cX3_place 19 = .ok (.invokevirtual 28, 3) := by decide +kernel
theorem dX3_place_22 : decode cX3_place 22 = .ok (.aload_n 0, 1) := by decide +kernel
theorem dX3_place_23 : decode cX3_place 23 = .ok (.getfield 21, 3) := by decide +kernel
theorem dX3_place_26 : decode cX3_place 26 = .ok (.aload_n 0, 1) := by decide +kernel
theorem dX3_place_27 : decode cX3_place 27 = .ok (.getfield 25, 3) := by decide +kernel
theorem dX3_place_30 : decode cX3_place 30 = .ok (.new 19, 3) := by decide +kernel
theorem dX3_place_33 : decode cX3_place 33 = .ok (.dup, 1) := by decide +kernel
theorem dX3_place_34 : decode cX3_place 34 = .ok (.aload_n 1, 1) := by decide +kernel
theorem dX3_place_35 : decode cX3_place 35 = .ok (.iload_n 2, 1) := by decide +kernel
theorem dX3_place_36 : decode cX3_place 36 = .ok (.iload_n 3, 1) := by decide +kernel
theorem dX3_place_37 : decode cX3_place 37 = .ok (.invokespecial 34, 3) := by decide +kernel
theorem dX3_place_40 : decode cX3_place 40 = .ok (.aastore, 1) := by decide +kernel
theorem dX3_place_41 : decode cX3_place 41 = .ok (.aload_n 0, 1) := by decide +kernel
theorem dX3_place_42 : decode cX3_place 42 = .ok (.dup, 1) := by decide +kernel
theorem dX3_place_43 : decode cX3_place 43 = .ok (.getfield 25, 3) := by decide +kernel
theorem dX3_place_46 : decode cX3_place 46 = .ok (.iconst 1, 1) := by decide +kernel
theorem dX3_place_47 : decode cX3_place 47 = .ok (.iadd, 1) := by decide +kernel
theorem dX3_place_48 : decode cX3_place 48 = .ok (.putfield 25, 3) := by decide +kernel
theorem dX3_place_51 : decode cX3_place 51 = .ok (.aload_n 0, 1) := by decide +kernel
theorem dX3_place_52 : decode cX3_place 52 = .ok (.dup, 1) := by decide +kernel
theorem dX3_place_53 : decode cX3_place 53 = .ok (.getfield 37, 3) := by decide +kernel
theorem dX3_place_56 : decode cX3_place 56 = .ok (.iload_n 2, 1) := by decide +kernel
theorem dX3_place_57 : decode cX3_place 57 = .ok (.iadd, 1) := by decide +kernel
theorem dX3_place_58 : decode cX3_place 58 = .ok (.putfield 37, 3) := by decide +kernel
theorem dX3_place_61 : decode cX3_place 61 = .ok (.aload_n 1, 1) := by decide +kernel
theorem dX3_place_62 : decode cX3_place 62 = .ok (.getfield 40, 3) := by decide +kernel
theorem dX3_place_65 : decode cX3_place 65 = .ok (.getfield 44, 3) := by decide +kernel
theorem dX3_place_68 : decode cX3_place 68 = .ok (.aload_n 0, 1) := by decide +kernel
theorem dX3_place_69 : decode cX3_place 69 = .ok (.getfield 7, 3) := by decide +kernel
theorem dX3_place_72 : decode cX3_place 72 = .ok (.dup2, 1) := by decide +kernel
theorem dX3_place_73 : decode cX3_place 73 = .ok (.iaload, 1) := by decide +kernel
theorem dX3_place_74 : decode cX3_place 74 = .ok (.iload_n 2, 1) := by decide +kernel
theorem dX3_place_75 : decode cX3_place 75 = .ok (.iadd, 1) := by decide +kernel
theorem dX3_place_76 : decode cX3_place 76 = .ok (.iastore, 1) := by decide +kernel
theorem dX3_place_77 : decode cX3_place 77 = .ok (.return_, 1) := by decide +kernel
theorem dX3_partAt_0 : decode cX3_partAt 0 = .ok (.iload_n 1, 1) := by decide +kernel
theorem dX3_partAt_1 : decode cX3_partAt 1 = .ok (.iconst 0, 1) := by decide +kernel
theorem dX3_partAt_2 : decode cX3_partAt 2 = .ok (.aload_n 0, 1) := by decide +kernel
theorem dX3_partAt_3 : decode cX3_partAt 3 = .ok (.getfield 25, 3) := by decide +kernel
theorem dX3_partAt_6 : decode cX3_partAt 6 = .ok (.iconst 1, 1) := by decide +kernel
theorem dX3_partAt_7 : decode cX3_partAt 7 = .ok (.isub, 1) := by decide +kernel
theorem dX3_partAt_8 : decode cX3_partAt 8 = .ok (.invokestatic 50, 3) := by decide +kernel
theorem dX3_partAt_11 : decode cX3_partAt 11 = .ok (.ifCond .eq 12, 3) := by decide +kernel
theorem dX3_partAt_14 : decode cX3_partAt 14 = .ok (.aload_n 0, 1) := by decide +kernel
theorem dX3_partAt_15 : decode cX3_partAt 15 = .ok (.getfield 21, 3) := by decide +kernel
theorem dX3_partAt_18 : decode cX3_partAt 18 = .ok (.iload_n 1, 1) := by decide +kernel
theorem dX3_partAt_19 : decode cX3_partAt 19 = .ok (.aaload, 1) := by decide +kernel
theorem dX3_partAt_20 : decode cX3_partAt 20 = .ok (.goto 4, 3) := by decide +kernel
theorem dX3_partAt_23 : decode cX3_partAt 23 = .ok (.aconst_null, 1) := by decide +kernel
theorem dX3_partAt_24 : decode cX3_partAt 24 = .ok (.areturn, 1) := by decide +kernel
theorem dX4_init_0 : decode cX4_init 0 = .ok (.aload_n 0, 1) := by decide +kernel
theorem dX4_init_1 : decode cX4_init 1 = .ok (.invokespecial 1, 3) := by decide +kernel
theorem dX4_init_4 : decode cX4_init 4 = .ok (.aload_n 0, 1) := by decide +kernel
theorem dX4_init_5 : decode cX4_init 5 = .ok (.aload_n 1, 1) := by decide +kernel
theorem dX4_init_6 : decode cX4_init 6 = .ok (.putfield 7, 3) := by decide +kernel
theorem dX4_init_9 : decode cX4_init 9 = .ok (.aload_n 0, 1) := by decide +kernel
theorem dX4_init_10 : decode cX4_init 10 = .ok (.iload_n 2, 1) := by decide +kernel
theorem dX4_init_11 : decode cX4_init 11 = .ok (.putfield 13, 3) := by decide +kernel
theorem dX4_init_14 : decode cX4_init 14 = .ok (.aload_n 0, 1) := by decide +kernel
theorem dX4_init_15 : decode cX4_init 15 = .ok (.iload_n 3, 1) := by decide +kernel
theorem dX4_init_16 : decode cX4_init 16 = .ok (.putfield 17, 3) := by decide +kernel
theorem dX4_init_19 : decode cX4_init 19 = .ok (.return_, 1) := by decide +kernel
end
section
theorem dX6_init_0 : decode cX6_init 0 = .ok (.aload_n 0, 1) := by decide +kernel
theorem dX6_init_1 : decode cX6_init 1 = .ok (.invokespecial 1, 3) := by decide +kernel
theorem dX6_init_4 : decode cX6_init 4 = .ok (.aload_n 0, 1) := by decide +kernel
theorem dX6_init_5 : decode cX6_init 5 = .ok (.bipush 8, 2) := by decide +kernel
theorem dX6_init_7 : decode cX6_init 7 = .ok (.newarray .int, 2) := by decide +kernel
theorem dX6_init_9 : decode cX6_init 9 = .ok (.putfield 7, 3) := by decide +kernel
theorem dX6_init_12 : decode cX6_init 12 = .ok (.aload_n 0, 1) := by decide +kernel
theorem dX6_init_13 : decode cX6_init 13 = .ok (.bipush 8, 2) := by decide +kernel
theorem dX6_init_15 : decode cX6_init 15 = .ok (.newarray .int, 2) := by decide +kernel
theorem dX6_init_17 : decode cX6_init 17 = .ok (.putfield 13, 3) := by decide +kernel
theorem dX6_init_20 : decode cX6_init 20 = .ok (.aload_n 0, 1) := by decide +kernel
theorem dX6_init_21 : decode cX6_init 21 = .ok (.bipush 8, 2) := by decide +kernel
theorem dX6_init_23 : decode cX6_init 23 = .ok (.newarray .boolean, 2) := by decide +kernel
theorem dX6_init_25 : decode cX6_init 25 = .ok (.putfield 16, 3) := by decide +kernel
theorem dX6_init_28 : decode cX6_init 28 = .ok (.aload_n 0, 1) := by decide +kernel
theorem dX6_init_29 : decode cX6_init 29 = .ok (.bipush 8, 2) := by decide +kernel
theorem dX6_init_31 : decode cX6_init 31 = .ok (.newarray .int, 2) := by decide +kernel
theorem dX6_init_33 : decode cX6_init 33 = .ok (.putfield 20, 3) := by decide +kernel
theorem dX6_init_36 : decode cX6_init 36 = .ok (.aload_n 0, 1) := by decide +kernel
theorem dX6_init_37 : decode cX6_init 37 = .ok (.sipush 200, 3) := by decide +kernel
theorem dX6_init_40 : decode cX6_init 40 = .ok (.newarray .int, 2) := by decide +kernel
theorem dX6_init_42 : decode cX6_init 42 = .ok (.putfield 23, 3) := by decide +kernel
theorem dX6_init_45 : decode cX6_init 45 = .ok (.aload_n 0, 1) := by decide +kernel
theorem dX6_init_46 : decode cX6_init 46 = .ok (.sipush 200, 3) := by decide +kernel
theorem dX6_init_49 : decode cX6_init 49 = .ok (.newarray .int, 2) := by decide +kernel
theorem dX6_init_51 : decode cX6_init 51 = .ok (.putfield 26, 3) := by decide +kernel
theorem dX6_init_54 : decode cX6_init 54 = .ok (.aload_n 0, 1) := by decide +kernel
theorem dX6_init_55 : decode cX6_init 55 = .ok (.sipush 200, 3) := by decide +kernel
theorem dX6_init_58 : decode cX6_init 58 = .ok (.newarray .int, 2) := by decide +kernel
theorem dX6_init_60 : decode cX6_init 60 = .ok (.putfield 29, 3) := by decide +kernel
theorem dX6_init_63 : decode cX6_init 63 = .ok (.aload_n 0, 1) := by decide +kernel
theorem dX6_init_64 : decode cX6_init 64 = .ok (.sipush 200, 3) := by decide +kernel
theorem dX6_init_67 : decode cX6_init 67 = .ok (.newarray .int, 2) := by decide +kernel
theorem dX6_init_69 : decode cX6_init 69 = .ok (.putfield 32, 3) := by decide +kernel
theorem dX6_init_72 : decode cX6_init 72 = .ok (.aload_n 0, 1) := by decide +kernel
theorem dX6_init_73 : decode cX6_init 73 = .ok (.sipush 200, 3) := by decide +kernel
theorem dX6_init_76 : decode cX6_init 76 = .ok (.newarray .boolean, 2) := by decide +kernel
theorem dX6_init_78 : decode cX6_init 78 = .ok (.putfield 35, 3) := by decide +kernel
theorem dX6_init_81 : decode cX6_init 81 = .ok (.aload_n 0, 1) := by decide +kernel
theorem dX6_init_82 : decode cX6_init 82 = .ok (.sipush 200, 3) := by decide +kernel
theorem dX6_init_85 : decode cX6_init 85 = .ok (.newarray .int, 2) := by decide +kernel
theorem dX6_init_87 : decode cX6_init 87 = .ok (.putfield 38, 3) := by decide +kernel
theorem dX6_init_90 : decode cX6_init 90 = .ok (.aload_n 0, 1) := by decide +kernel
theorem dX6_init_91 : decode cX6_init 91 = .ok (.sipush 300, 3) := by decide +kernel
theorem dX6_init_94 : decode cX6_init 94 = .ok (.newarray .int, 2) := by decide +kernel
theorem dX6_init_96 : decode cX6_init 96 = .ok (.putfield 41, 3) := by decide +kernel
theorem dX6_init_99 : decode cX6_init 99 = .ok (.aload_n 0, 1) := by decide +kernel
theorem dX6_init_100 : decode cX6_init 100 = .ok (.sipush 300, 3) := by decide +kernel
theorem dX6_init_103 : decode cX6_init 103 = .ok (.newarray .int, 2) := by decide +kernel
theorem dX6_init_105 : decode cX6_init 105 = .ok (.putfield 44, 3) := by decide +kernel
theorem dX6_init_108 : decode cX6_init 108 = .ok (.aload_n 0, 1) := by decide +kernel
theorem dX6_init_109 : decode cX6_init 109 = .ok (.sipush 300, 3) := by decide +kernel
theorem dX6_init_112 : decode cX6_init 112 = .ok (.newarray .int, 2) := by decide +kernel
theorem dX6_init_114 : decode cX6_init 114 = .ok (.putfield 47, 3) := by decide +kernel
theorem dX6_init_117 : decode cX6_init 117 = .ok (.aload_n 0, 1) := by decide +kernel
theorem dX6_init_118 : decode cX6_init 118 = .ok (.sipush 9000, 3) := by decide +kernel
theorem dX6_init_121 : decode cX6_init 121 = .ok (.newarray .int, 2) := by decide +kernel
theorem dX6_init_123 : decode cX6_init 123 = .ok (.putfield 50, 3) := by decide +kernel
theorem dX6_init_126 : decode cX6_init 126 = .ok (.aload_n 0, 1) := by decide +kernel
theorem dX6_init_127 : decode cX6_init 127 = .ok (.sipush 9000, 3) := by decide +kernel
theorem dX6_init_130 : decode cX6_init 130 = .ok (.newarray .int, 2) := by decide +kernel
theorem dX6_init_132 : decode cX6_init 132 = .ok (.putfield 53, 3) := by decide +kernel
theorem dX6_init_135 : decode cX6_init 135 = .ok (.aload_n 0, 1) := by decide +kernel
theorem dX6_init_136 : decode cX6_init 136 = .ok (.sipush 9000, 3) := by decide +kernel
theorem dX6_init_139 : decode cX6_init 139 = .ok (.newarray .int, 2) := by decide +kernel
theorem dX6_init_141 : decode cX6_init 141 = .ok (.putfield 56, 3) := by decide +kernel
theorem dX6_init_144 : decode cX6_init 144 = .ok (.aload_n 0, 1) := by decide +kernel
theorem dX6_init_145 : decode cX6_init 145 = .ok (.sipush 9000, 3) := by decide +kernel
theorem dX6_init_148 : decode cX6_init 148 = .ok (.newarray .boolean, 2) := by decide +kernel
theorem dX6_init_150 : decode cX6_init 150 = .ok (.putfield 59, 3) := by decide +kernel
theorem dX6_init_153 : decode cX6_init 153 = .ok (.aload_n 0, 1) := by decide +kernel
theorem dX6_init_154 : decode cX6_init 154 = .ok (.sipush 200, 3) := by decide +kernel
theorem dX6_init_157 : decode cX6_init 157 = .ok (.newarray .int, 2) := by decide +kernel
theorem dX6_init_159 : decode cX6_init 159 = .ok (.putfield 62, 3) := by decide +kernel
theorem dX6_init_162 : decode cX6_init 162 = .ok (.aload_n 0, 1) := by decide +kernel
theorem dX6_init_163 : decode cX6_init 163 = .ok (.sipush 200, 3) := by decide +kernel
theorem dX6_init_166 : decode cX6_init 166 = .ok (.newarray .int, 2) := by decide +kernel
theorem dX6_init_168 : decode cX6_init 168 = .ok (.putfield 65, 3) := by decide +kernel
theorem dX6_init_171 : decode cX6_init 171 = .ok (.aload_n 0, 1) := by decide +kernel
theorem dX6_init_172 : decode cX6_init 172 = .ok (.bipush 8, 2) := by decide +kernel
theorem dX6_init_174 : decode cX6_init 174 = .ok (.newarray .boolean, 2) := by decide +kernel
theorem dX6_init_176 : decode cX6_init 176 = .ok (.putfield 68, 3) := by decide +kernel
theorem dX6_init_179 : decode cX6_init 179 = .ok (.aload_n 0, 1) := by decide +kernel
theorem dX6_init_180 : decode cX6_init 180 = .ok (.iload_n 1, 1) := by decide +kernel
theorem dX6_init_181 : decode cX6_init 181 = .ok (.iconst 1, 1) := by decide +kernel
theorem dX6_init_182 : decode cX6_init 182 = .ok (.if_icmp .ge 7, 3) := by decide +kernel
theorem dX6_init_185 : decode cX6_init 185 = .ok (.iconst 1, 1) := by decide +kernel
theorem dX6_init_186 : decode cX6_init 186 = .ok (.goto 17, 3) := by decide +kernel
theorem dX6_init_189 : decode cX6_init 189 = .ok (.iload_n 1, 1) := by decide +kernel
theorem dX6_init_190 : decode cX6_init 190 = .ok (.sipush 30000, 3) := by decide +kernel
theorem dX6_init_193 : decode cX6_init 193 = .ok (.if_icmp .le 9, 3) := by decide +kernel
theorem dX6_init_196 : decode cX6_init 196 = .ok (.sipush 30000, 3) := by decide +kernel
theorem dX6_init_199 : decode cX6_init 199 = .ok (.goto 4, 3) := by decide +kernel
theorem dX6_init_202 : decode cX6_init 202 = .ok (.iload_n 1, 1) := by decide +kernel
theorem dX6_init_203 : decode cX6_init 203 = .ok (.putfield 71, 3) := by decide +kernel
theorem dX6_init_206 : decode cX6_init 206 = .ok (.return_, 1) := by decide +kernel
theorem dX6_in_0 : decode cX6_in 0 = .ok (.iload_n 0, 1) := by decide +kernel
theorem dX6_in_1 : decode cX6_in 1 = .ok (.iload_n 1, 1) := by decide +kernel
theorem dX6_in_2 : decode cX6_in 2 = .ok (.if_icmp .lt 12, 3) := by decide +kernel
theorem dX6_in_5 : decode cX6_in 5 = .ok (.iload_n 0, 1) := by decide +kernel
theorem dX6_in_6 : decode cX6_in 6 = .ok (.iload_n 2, 1) := by decide +kernel
theorem dX6_in_7 : decode cX6_in 7 = .ok (.if_icmp .gt 7, 3) := by decide +kernel
theorem dX6_in_10 : decode cX6_in 10 = .ok (.iconst 1, 1) := by decide +kernel
theorem dX6_in_11 : decode cX6_in 11 = .ok (.goto 4, 3) := by decide +kernel
theorem dX6_in_14 : decode cX6_in 14 = .ok (.iconst 0, 1) := by decide +kernel
theorem dX6_in_15 : decode cX6_in 15 = .ok (.ireturn, 1) := by decide +kernel
theorem dX6_isClass_0 : decode cX6_isClass 0 = .ok (.iload_n 1, 1) := by decide +kernel
theorem dX6_isClass_1 : decode cX6_isClass 1 = .ok (.iconst 0, 1) := by decide +kernel
theorem dX6_isClass_2 : decode cX6_isClass 2 = .ok (.aload_n 0, 1) := by decide +kernel
theorem dX6_isClass_3 : decode cX6_isClass 3 = .ok (.getfield 75, 3) := by decide +kernel
theorem dX6_isClass_6 : decode cX6_isClass 6 = .ok (.iconst 1, 1) := by decide +kernel
theorem dX6_isClass_7 : decode cX6_isClass 7 = .ok (.isub, 1) := by decide +kernel
theorem dX6_isClass_8 : decode cX6_isClass 8 = .ok (.invokestatic 78, 3) := by decide +kernel
theorem dX6_isClass_11 : decode cX6_isClass 11 = .ok (.ireturn, 1) := by decide +kernel
theorem dX6_cls_0 : decode cX6_cls 0 = .ok (.iload_n 1, 1) := by decide +kernel
theorem dX6_cls_1 : decode cX6_cls 1 = .ok (.iconst (-1), 1) := by decide +kernel
theorem dX6_cls_2 : decode cX6_cls 2 = .ok (.sipush 10000, 3) := by decide +kernel
theorem dX6_cls_5 : decode cX6_cls 5 = .ok (.invokestatic 78, 3) := by decide +kernel
theorem dX6_cls_8 : decode cX6_cls 8 = .ok (.ifCond .eq 14, 3) := by decide +kernel
theorem dX6_cls_11 : decode cX6_cls 11 = .ok (.iload_n 2, 1) := by decide +kernel
theorem dX6_cls_12 : decode cX6_cls 12 = .ok (.iconst 0, 1) := by decide +kernel
theorem dX6_cls_13 : decode cX6_cls 13 = .ok (.sipush 10000, 3) := by decide +kernel
theorem dX6_cls_16 : decode cX6_cls 16 = .ok (.invokestatic 78, 3) := by decide +kernel
theorem dX6_cls_19 : decode cX6_cls 19 = .ok (.ifCond .ne 6, 3) := by decide +kernel
theorem dX6_cls_22 : decode cX6_cls 22 = .ok (.bipush (-2), 2) := by decide +kernel
theorem dX6_cls_24 : decode cX6_cls 24 = .ok (.ireturn, 1) := by decide +kernel
theorem dX6_cls_25 : decode cX6_cls 25 = .ok (.aload_n 0, 1) := by decide +kernel
theorem dX6_cls_26 : decode cX6_cls 26 = .ok (.getfield 75, 3) := by decide +kernel
theorem dX6_cls_29 : decode cX6_cls 29 = .ok (.bipush 8, 2) := by decide +kernel
theorem dX6_cls_31 : decode cX6_cls 31 = .ok (.if_icmp .ne 6, 3) := by decide +kernel
theorem dX6_cls_34 : decode cX6_cls 34 = .ok (.bipush (-4), 2) := by decide +kernel
theorem dX6_cls_36 : decode cX6_cls 36 = .ok (.ireturn, 1) := by decide +kernel
theorem dX6_cls_37 : decode cX6_cls 37 = .ok (.aload_n 0, 1) := by decide +kernel
theorem dX6_cls_38 : decode cX6_cls 38 = .ok (.getfield 7, 3) := by decide +kernel
theorem dX6_cls_41 : decode cX6_cls 41 = .ok (.aload_n 0, 1) := by decide +kernel
theorem dX6_cls_42 : decode cX6_cls 42 = .ok (.getfield 75, 3) := by decide +kernel
theorem dX6_cls_45 : decode cX6_cls 45 = .ok (.iload_n 1, 1) := by decide +kernel
theorem dX6_cls_46 : decode cX6_cls 46 = .ok (.iastore, 1) := by decide +kernel
theorem dX6_cls_47 : decode cX6_cls 47 = .ok (.aload_n 0, 1) := by decide +kernel
theorem dX6_cls_48 : decode cX6_cls 48 = .ok (.getfield 13, 3) := by decide +kernel
theorem dX6_cls_51 : decode cX6_cls 51 = .ok (.aload_n 0, 1) := by decide +kernel
theorem dX6_cls_52 : decode cX6_cls 52 = .ok (.getfield 75, 3) := by decide +kernel
theorem dX6_cls_55 : decode cX6_cls 55 = .ok (.iload_n 2, 1) := by decide +kernel
theorem dX6_cls_56 : decode cX6_cls 56 = .ok (.iastore, 1) := by decide +kernel
theorem dX6_cls_57 : decode cX6_cls 57 = .ok (.aload_n 0, 1) := by decide +kernel
theorem dX6_cls_58 : decode cX6_cls 58 = .ok (.getfield 16, 3) := by decide +kernel
theorem dX6_cls_61 : decode cX6_cls 61 = .ok (.aload_n 0, 1) := by decide +kernel
theorem dX6_cls_62 : decode cX6_cls 62 = .ok (.getfield 75, 3) := by decide +kernel
theorem dX6_cls_65 : decode cX6_cls 65 = .ok (.iload_n 3, 1) := by decide +kernel
theorem dX6_cls_66 : decode cX6_cls 66 = .ok (.bastore, 1) := by decide +kernel
theorem dX6_cls_67 : decode cX6_cls 67 = .ok (.aload_n 0, 1) := by decide +kernel
theorem dX6_cls_68 : decode cX6_cls 68 = .ok (.dup, 1) := by decide +kernel
theorem dX6_cls_69 : decode cX6_cls 69 = .ok (.getfield 75, 3) := by decide +kernel
theorem dX6_cls_72 : decode cX6_cls 72 = .ok (.iconst 1, 1) := by decide +kernel
theorem dX6_cls_73 : decode cX6_cls 73 = .ok (.iadd, 1) := by decide +kernel
theorem dX6_cls_74 : decode cX6_cls 74 = .ok (.putfield 75, 3) := by decide +kernel
theorem dX6_cls_77 : decode cX6_cls 77 = .ok (.aload_n 0, 1) := by decide +kernel
theorem dX6_cls_78 : decode cX6_cls 78 = .ok (.getfield 75, 3) := by decide +kernel
theorem dX6_cls_81 : decode cX6_cls 81 = .ok (.iconst 1, 1) := by decide +kernel
theorem dX6_cls_82 : decode cX6_cls 82 = .ok (.isub, 1) := by decide +kernel
theorem dX6_cls_83 : decode cX6_cls 83 = .ok (.ireturn, 1) := by decide +kernel
theorem dX6_insert_0 : decode cX6_insert 0 = .ok (.aload_n 0, 1) := by decide +kernel
theorem dX6_insert_1 : decode cX6_insert 1 = .ok (.iload_n 1, 1) := by decide +kernel
theorem dX6_insert_2 : decode cX6_insert 2 = .ok (.invokevirtual 82, 3) := by decide +kernel
theorem dX6_insert_5 : decode cX6_insert 5 = .ok (.ifCond .ne 5, 3) := by decide +kernel
theorem dX6_insert_8 : decode cX6_insert 8 = .ok (.iconst (-1), 1) := by decide +kernel
theorem dX6_insert_9 : decode cX6_insert 9 = .ok (.ireturn, 1) := by decide +kernel
theorem dX6_insert_10 : decode cX6_insert 10 = .ok (.iload_n 2, 1) := by decide +kernel
theorem dX6_insert_11 : decode cX6_insert 11 = .ok (.iconst 1, 1) := by decide +kernel
theorem dX6_insert_12 : decode cX6_insert 12 = .ok (.sipush 10000, 3) := by decide +kernel
theorem dX6_insert_15 : decode cX6_insert 15 = .ok (.invokestatic 78, 3) := by decide +kernel
theorem dX6_insert_18 : decode cX6_insert 18 = .ok (.ifCond .eq 13, 3) := by decide +kernel
theorem dX6_insert_21 : decode cX6_insert 21 = .ok (.iload_n 3, 1) := by decide +kernel
theorem dX6_insert_22 : decode cX6_insert 22 = .ok (.iconst 0, 1) := by decide +kernel
theorem dX6_insert_23 : decode cX6_insert 23 = .ok (.bipush 39, 2) := by decide +kernel
theorem dX6_insert_25 : decode cX6_insert 25 = .ok (.invokestatic 78, 3) := by decide +kernel
theorem dX6_insert_28 : decode cX6_insert 28 = .ok (.ifCond .ne 6, 3) := by decide +kernel
theorem dX6_insert_31 : decode cX6_insert 31 = .ok (.bipush (-2), 2) := by decide +kernel
theorem dX6_insert_33 : decode cX6_insert 33 = .ok (.ireturn, 1) := by decide +kernel
theorem dX6_insert_34 : decode cX6_insert 34 = .ok (.iload_n 3, 1) := by decide +kernel
theorem dX6_insert_35 : decode cX6_insert 35 = .ok (.aload_n 0, 1) := by decide +kernel
theorem dX6_insert_36 : decode cX6_insert 36 = .ok (.getfield 86, 3) := by decide +kernel
theorem dX6_insert_39 : decode cX6_insert 39 = .ok (.if_icmp .ge 6, 3) := by decide +kernel
theorem dX6_insert_42 : decode cX6_insert 42 = .ok (.bipush (-3), 2) := by decide +kernel
theorem dX6_insert_44 : decode cX6_insert 44 = .ok (.ireturn, 1) := by decide +kernel
theorem dX6_insert_45 : decode cX6_insert 45 = .ok (.aload_n 0, 1) := by decide +kernel
theorem dX6_insert_46 : decode cX6_insert 46 = .ok (.getfield 89, 3) := by decide +kernel
theorem dX6_insert_49 : decode cX6_insert 49 = .ok (.sipush 200, 3) := by decide +kernel
theorem dX6_insert_52 : decode cX6_insert 52 = .ok (.if_icmp .ne 6, 3) := by decide +kernel
theorem dX6_insert_55 : decode cX6_insert 55 = .ok (.bipush (-4), 2) := by decide +kernel
theorem dX6_insert_57 : decode cX6_insert 57 = .ok (.ireturn, 1) := by decide +kernel
theorem dX6_insert_58 : decode cX6_insert 58 = .ok (.aload_n 0, 1) := by decide +kernel
theorem dX6_insert_59 : decode cX6_insert 59 = .ok (.getfield 23, 3) := by decide +kernel
theorem dX6_insert_62 : decode cX6_insert 62 = .ok (.aload_n 0, 1) := by decide +kernel
theorem dX6_insert_63 : decode cX6_insert 63 = .ok (.getfield 89, 3) := by decide +kernel
theorem dX6_insert_66 : decode cX6_insert 66 = .ok (.iload_n 1, 1) := by decide +kernel
theorem dX6_insert_67 : decode cX6_insert 67 = .ok (.iastore, 1) := by decide +kernel
theorem dX6_insert_68 : decode cX6_insert 68 = .ok (.aload_n 0, 1) := by decide +kernel
theorem dX6_insert_69 : decode cX6_insert 69 = .ok (.getfield 26, 3) := by decide +kernel
theorem dX6_insert_72 : decode cX6_insert 72 = .ok (.aload_n 0, 1) := by decide +kernel
theorem dX6_insert_73 : decode cX6_insert 73 = .ok (.getfield 89, 3) := by decide +kernel
theorem dX6_insert_76 : decode cX6_insert 76 = .ok (.iload_n 2, 1) := by decide +kernel
theorem dX6_insert_77 : decode cX6_insert 77 = .ok (.iastore, 1) := by decide +kernel
theorem dX6_insert_78 : decode cX6_insert 78 = .ok (.aload_n 0, 1) := by decide +kernel
theorem dX6_insert_79 : decode cX6_insert 79 = .ok (.getfield 29, 3) := by decide +kernel
theorem dX6_insert_82 : decode cX6_insert 82 = .ok (.aload_n 0, 1) := by decide +kernel
theorem dX6_insert_83 : decode cX6_insert 83 = .ok (.getfield 89, 3) := by decide +kernel
theorem dX6_insert_86 : decode cX6_insert 86 = .ok (.iload_n 3, 1) := by decide +kernel
theorem dX6_insert_87 : decode cX6_insert 87 = .ok (.iastore, 1) := by decide +kernel
theorem dX6_insert_88 : decode cX6_insert 88 = .ok (.aload_n 0, 1) := by decide +kernel
theorem dX6_insert_89 : decode cX6_insert 89 = .ok (.dup, 1) := by decide +kernel
theorem dX6_insert_90 : decode cX6_insert 90 = .ok (.getfield 89, 3) := by decide +kernel
theorem dX6_insert_93 : decode cX6_insert 93 = .ok (.iconst 1, 1) := by decide +kernel
theorem dX6_insert_94 : decode cX6_insert 94 = .ok (.iadd, 1) := by decide +kernel
theorem dX6_insert_95 : decode cX6_insert 95 = .ok (.putfield 89, 3) := by decide +kernel
theorem dX6_insert_98 : decode cX6_insert 98 = .ok (.aload_n 0, 1) := by decide +kernel
theorem dX6_insert_99 : decode cX6_insert 99 = .ok (.getfield 89, 3) := by decide +kernel
theorem dX6_insert_102 : decode cX6_insert 102 = .ok (.iconst 1, 1) := by decide +kernel
theorem dX6_insert_103 : decode cX6_insert 103 = .ok (.isub, 1) := by decide +kernel
theorem dX6_insert_104 : decode cX6_insert 104 = .ok (.ireturn, 1) := by decide +kernel
theorem dX6_mark_0 : decode cX6_mark 0 = .ok (.aload_n 0, 1) := by decide +kernel
theorem dX6_mark_1 : decode cX6_mark 1 = .ok (.iload_n 1, 1) := by decide +kernel
theorem dX6_mark_2 : decode cX6_mark 2 = .ok (.invokevirtual 82, 3) := by decide +kernel
theorem dX6_mark_5 : decode cX6_mark 5 = .ok (.ifCond .ne 5, 3) := by decide +kernel
theorem dX6_mark_8 : decode cX6_mark 8 = .ok (.iconst (-1), 1) := by decide +kernel
theorem dX6_mark_9 : decode cX6_mark 9 = .ok (.ireturn, 1) := by decide +kernel
theorem dX6_mark_10 : decode cX6_mark 10 = .ok (.iload_n 3, 1) := by decide +kernel
theorem dX6_mark_11 : decode cX6_mark 11 = .ok (.iconst 0, 1) := by decide +kernel
theorem dX6_mark_12 : decode cX6_mark 12 = .ok (.bipush 39, 2) := by decide +kernel
theorem dX6_mark_14 : decode cX6_mark 14 = .ok (.invokestatic 78, 3) := by decide +kernel
theorem dX6_mark_17 : decode cX6_mark 17 = .ok (.ifCond .ne 6, 3) := by decide +kernel
theorem dX6_mark_20 : decode cX6_mark 20 = .ok (.bipush (-2), 2) := by decide +kernel
theorem dX6_mark_22 : decode cX6_mark 22 = .ok (.ireturn, 1) := by decide +kernel
theorem dX6_mark_23 : decode cX6_mark 23 = .ok (.iload_n 3, 1) := by decide +kernel
theorem dX6_mark_24 : decode cX6_mark 24 = .ok (.aload_n 0, 1) := by decide +kernel
theorem dX6_mark_25 : decode cX6_mark 25 = .ok (.getfield 86, 3) := by decide +kernel
theorem dX6_mark_28 : decode cX6_mark 28 = .ok (.if_icmp .ge 6, 3) := by decide +kernel
theorem dX6_mark_31 : decode cX6_mark 31 = .ok (.bipush (-3), 2) := by decide +kernel
theorem dX6_mark_33 : decode cX6_mark 33 = .ok (.ireturn, 1) := by decide +kernel
theorem dX6_mark_34 : decode cX6_mark 34 = .ok (.aload_n 0, 1) := by decide +kernel
theorem dX6_mark_35 : decode cX6_mark 35 = .ok (.getfield 92, 3) := by decide +kernel
theorem dX6_mark_38 : decode cX6_mark 38 = .ok (.sipush 300, 3) := by decide +kernel
theorem dX6_mark_41 : decode cX6_mark 41 = .ok (.if_icmp .ne 6, 3) := by decide +kernel
theorem dX6_mark_44 : decode cX6_mark 44 = .ok (.bipush (-4), 2) := by decide +kernel
theorem dX6_mark_46 : decode cX6_mark 46 = .ok (.ireturn, 1) := by decide +kernel
theorem dX6_mark_47 : decode cX6_mark 47 = .ok (.aload_n 0, 1) := by decide +kernel
theorem dX6_mark_48 : decode cX6_mark 48 = .ok (.getfield 41, 3) := by decide +kernel
theorem dX6_mark_51 : decode cX6_mark 51 = .ok (.aload_n 0, 1) := by decide +kernel
theorem dX6_mark_52 : decode cX6_mark 52 = .ok (.getfield 92, 3) := by decide +kernel
theorem dX6_mark_55 : decode cX6_mark 55 = .ok (.iload_n 1, 1) := by decide +kernel
theorem dX6_mark_56 : decode cX6_mark 56 = .ok (.iastore, 1) := by decide +kernel
theorem dX6_mark_57 : decode cX6_mark 57 = .ok (.aload_n 0, 1) := by decide +kernel
theorem dX6_mark_58 : decode cX6_mark 58 = .ok (.getfield 47, 3) := by decide +kernel
theorem dX6_mark_61 : decode cX6_mark 61 = .ok (.aload_n 0, 1) := by decide +kernel
theorem dX6_mark_62 : decode cX6_mark 62 = .ok (.getfield 92, 3) := by decide +kernel
theorem dX6_mark_65 : decode cX6_mark 65 = .ok (.iload_n 2, 1) := by decide +kernel
theorem dX6_mark_66 : decode cX6_mark 66 = .ok (.iastore, 1) := by decide +kernel
theorem dX6_mark_67 : decode cX6_mark 67 = .ok (.aload_n 0, 1) := by decide +kernel
theorem dX6_mark_68 : decode cX6_mark 68 = .ok (.getfield 44, 3) := by decide +kernel
theorem dX6_mark_71 : decode cX6_mark 71 = .ok (.aload_n 0, 1) := by decide +kernel
theorem dX6_mark_72 : decode cX6_mark 72 = .ok (.getfield 92, 3) := by decide +kernel
theorem dX6_mark_75 : decode cX6_mark 75 = .ok (.iload_n 3, 1) := by decide +kernel
theorem dX6_mark_76 : decode cX6_mark 76 = .ok (.iastore, 1) := by decide +kernel
theorem dX6_mark_77 : decode cX6_mark 77 = .ok (.aload_n 0, 1) := by decide +kernel
theorem dX6_mark_78 : decode cX6_mark 78 = .ok (.dup, 1) := by decide +kernel
theorem dX6_mark_79 : decode cX6_mark 79 = .ok (.getfield 92, 3) := by decide +kernel
theorem dX6_mark_82 : decode cX6_mark 82 = .ok (.iconst 1, 1) := by decide +kernel
theorem dX6_mark_83 : decode cX6_mark 83 = .ok (.iadd, 1) := by decide +kernel
theorem dX6_mark_84 : decode cX6_mark 84 = .ok (.putfield 92, 3) := by decide +kernel
theorem dX6_mark_87 : decode cX6_mark 87 = .ok (.aload_n 0, 1) := by decide +kernel
theorem dX6_mark_88 : decode cX6_mark 88 = .ok (.getfield 92, 3) := by decide +kernel
theorem dX6_mark_91 : decode cX6_mark 91 = .ok (.ireturn, 1) := by decide +kernel
theorem dX6_standing_0 : decode cX6_standing 0 = .ok (.iconst 0, 1) := by decide +kernel
theorem dX6_standing_1 : decode cX6_standing 1 = .ok (.istore_n 3, 1) := by decide +kernel
theorem dX6_standing_2 : decode cX6_standing 2 = .ok (.iconst 0, 1) := by decide +kernel
theorem dX6_standing_3 : decode cX6_standing 3 = .ok (.istore 4, 2) := by decide +kernel
theorem dX6_standing_5 : decode cX6_standing 5 = .ok (.iload 4, 2) := by decide +kernel
theorem dX6_standing_7 : decode cX6_standing 7 = .ok (.aload_n 0, 1) := by decide +kernel
theorem dX6_standing_8 : decode cX6_standing 8 = .ok (.getfield 95, 3) := by decide +kernel
theorem dX6_standing_11 : decode cX6_standing 11 = .ok (.if_icmp .ge 54, 3) := by decide +kernel
theorem dX6_standing_14 : decode cX6_standing 14 = .ok (.iload_n 3, 1) := by decide +kernel
theorem dX6_standing_15 : decode cX6_standing 15 = .ok (.aload_n 0, 1) := by decide +kernel
theorem dX6_standing_16 : decode cX6_standing 16 = .ok (.getfield 50, 3) := by decide +kernel
theorem dX6_standing_19 : decode cX6_standing 19 = .ok (.iload 4, 2) := by decide +kernel
theorem dX6_standing_21 : decode cX6_standing 21 = .ok (.iaload, 1) := by decide +kernel
theorem dX6_standing_22 : decode cX6_standing 22 = .ok (.iload_n 1, 1) := by decide +kernel
theorem dX6_standing_23 : decode cX6_standing 23 = .ok (.if_icmp .ne 33, 3) := by decide +kernel
theorem dX6_standing_26 : decode cX6_standing 26 = .ok (.iload_n 2, 1) := by decide +kernel
theorem dX6_standing_27 : decode cX6_standing 27 = .ok (.ifCond .lt 19, 3) := by decide +kernel
theorem dX6_standing_30 : decode cX6_standing 30 = .ok (.aload_n 0, 1) := by decide +kernel
theorem dX6_standing_31 : decode cX6_standing 31 = .ok (.getfield 23, 3) := by decide +kernel
theorem dX6_standing_34 : decode cX6_standing 34 = .ok (.aload_n 0, 1) := by decide +kernel
theorem dX6_standing_35 : decode cX6_standing 35 = .ok (.getfield 53, 3) := by decide +kernel
theorem dX6_standing_38 : decode cX6_standing 38 = .ok (.iload 4, 2) := by decide +kernel
theorem dX6_standing_40 : decode cX6_standing 40 = .ok (.iaload, 1) := by decide +kernel
theorem dX6_standing_41 : decode cX6_standing 41 = .ok (.iaload, 1) := by decide +kernel
theorem dX6_standing_42 : decode cX6_standing 42 = .ok (.iload_n 2, 1) := by decide +kernel
theorem dX6_standing_43 : decode cX6_standing 43 = .ok (.if_icmp .ne 13, 3) := by decide +kernel
theorem dX6_standing_46 : decode cX6_standing 46 = .ok (.aload_n 0, 1) := by decide +kernel
theorem dX6_standing_47 : decode cX6_standing 47 = .ok (.getfield 56, 3) := by decide +kernel
theorem dX6_standing_50 : decode cX6_standing 50 = .ok (.iload 4, 2) := by decide +kernel
theorem dX6_standing_52 : decode cX6_standing 52 = .ok (.iaload, 1) := by decide +kernel
theorem dX6_standing_53 : decode cX6_standing 53 = .ok (.goto 4, 3) := by decide +kernel
theorem dX6_standing_56 : decode cX6_standing 56 = .ok (.iconst 0, 1) := by decide +kernel
theorem dX6_standing_57 : decode cX6_standing 57 = .ok (.iadd, 1) := by decide +kernel
theorem dX6_standing_58 : decode cX6_standing 58 = .ok (.istore_n 3, 1) := by decide +kernel
theorem dX6_standing_59 : decode cX6_standing 59 = .ok (.iinc 4 1, 3) := by decide +kernel
theorem dX6_standing_62 : decode cX6_standing 62 = .ok (.goto (-57), 3) := by decide +kernel
theorem dX6_standing_65 : decode cX6_standing 65 = .ok (.iload_n 3, 1) := by decide +kernel
theorem dX6_standing_66 : decode cX6_standing 66 = .ok (.ireturn, 1) := by decide +kernel
theorem dX6_place_0 : decode cX6_place 0 = .ok (.aload_n 0, 1) := by decide +kernel
theorem dX6_place_1 : decode cX6_place 1 = .ok (.getfield 23, 3) := by decide +kernel
theorem dX6_place_4 : decode cX6_place 4 = .ok (.iload_n 1, 1) := by decide +kernel
theorem dX6_place_5 : decode cX6_place 5 = .ok (.iaload, 1) := by decide +kernel
theorem dX6_place_6 : decode cX6_place 6 = .ok (.istore 4, 2) := by decide +kernel
theorem dX6_place_8 : decode cX6_place 8 = .ok (.aload_n 0, 1) := by decide +kernel
theorem dX6_place_9 : decode cX6_place 9 = .ok (.getfield 38, 3) := by decide +kernel
theorem dX6_place_12 : decode cX6_place 12 = .ok (.iload_n 1, 1) := by decide +kernel
theorem dX6_place_13 : decode cX6_place 13 = .ok (.iaload, 1) := by decide +kernel
theorem dX6_place_14 : decode cX6_place 14 = .ok (.ifCond .ne 27, 3) := by decide +kernel
theorem dX6_place_17 : decode cX6_place 17 = .ok (.aload_n 0, 1) := by decide +kernel
theorem dX6_place_18 : decode cX6_place 18 = .ok (.getfield 20, 3) := by decide +kernel
theorem dX6_place_21 : decode cX6_place 21 = .ok (.iload 4, 2) := by decide +kernel
theorem dX6_place_23 : decode cX6_place 23 = .ok (.dup2, 1) := by decide +kernel
theorem dX6_place_24 : decode cX6_place 24 = .ok (.iaload, 1) := by decide +kernel
theorem dX6_place_25 : decode cX6_place 25 = .ok (.iconst 1, 1) := by decide +kernel
theorem dX6_place_26 : decode cX6_place 26 = .ok (.iadd, 1) := by decide +kernel
theorem dX6_place_27 : decode cX6_place 27 = .ok (.iastore, 1) := by decide +kernel
theorem dX6_place_28 : decode cX6_place 28 = .ok (.aload_n 0, 1) := by decide +kernel
theorem dX6_place_29 : decode cX6_place 29 = .ok (.getfield 32, 3) := by decide +kernel
theorem dX6_place_32 : decode cX6_place 32 = .ok (.iload_n 1, 1) := by decide +kernel
theorem dX6_place_33 : decode cX6_place 33 = .ok (.aload_n 0, 1) := by decide +kernel
theorem dX6_place_34 : decode cX6_place 34 = .ok (.getfield 20, 3) := by decide +kernel
theorem dX6_place_37 : decode cX6_place 37 = .ok (.iload 4, 2) := by decide +kernel
theorem dX6_place_39 : decode cX6_place 39 = .ok (.iaload, 1) := by decide +kernel
theorem dX6_place_40 : decode cX6_place 40 = .ok (.iastore, 1) := by decide +kernel
theorem dX6_place_41 : decode cX6_place 41 = .ok (.aload_n 0, 1) := by decide +kernel
theorem dX6_place_42 : decode cX6_place 42 = .ok (.getfield 50, 3) := by decide +kernel
theorem dX6_place_45 : decode cX6_place 45 = .ok (.aload_n 0, 1) := by decide +kernel
theorem dX6_place_46 : decode cX6_place 46 = .ok (.getfield 95, 3) := by decide +kernel
theorem dX6_place_49 : decode cX6_place 49 = .ok (.aload_n 0, 1) := by decide +kernel
theorem dX6_place_50 : decode cX6_place 50 = .ok (.getfield 86, 3) := by decide +kernel
theorem dX6_place_53 : decode cX6_place 53 = .ok (.iastore, 1) := by decide +kernel
theorem dX6_place_54 : decode cX6_place 54 = .ok (.aload_n 0, 1) := by decide +kernel
theorem dX6_place_55 : decode cX6_place 55 = .ok (.getfield 53, 3) := by decide +kernel
theorem dX6_place_58 : decode cX6_place 58 = .ok (.aload_n 0, 1) := by decide +kernel
theorem dX6_place_59 : decode cX6_place 59 = .ok (.getfield 95, 3) := by decide +kernel
theorem dX6_place_62 : decode cX6_place 62 = .ok (.iload_n 1, 1) := by decide +kernel
theorem dX6_place_63 : decode cX6_place 63 = .ok (.iastore, 1) := by decide +kernel
theorem dX6_place_64 : decode cX6_place 64 = .ok (.aload_n 0, 1) := by decide +kernel
theorem dX6_place_65 : decode cX6_place 65 = .ok (.getfield 56, 3) := by decide +kernel
theorem dX6_place_68 : decode cX6_place 68 = .ok (.aload_n 0, 1) := by decide +kernel
theorem dX6_place_69 : decode cX6_place 69 = .ok (.getfield 95, 3) := by decide +kernel
theorem dX6_place_72 : decode cX6_place 72 = .ok (.iload_n 2, 1) := by decide +kernel
theorem dX6_place_73 : decode cX6_place 73 = .ok (.iastore, 1) := by decide +kernel
theorem dX6_place_74 : decode cX6_place 74 = .ok (.aload_n 0, 1) := by decide +kernel
theorem dX6_place_75 : decode cX6_place 75 = .ok (.getfield 59, 3) := by decide +kernel
theorem dX6_place_78 : decode cX6_place 78 = .ok (.aload_n 0, 1) := by decide +kernel
theorem dX6_place_79 : decode cX6_place 79 = .ok (.getfield 95, 3) := by decide +kernel
theorem dX6_place_82 : decode cX6_place 82 = .ok (.iload_n 3, 1) := by decide +kernel
theorem dX6_place_83 : decode cX6_place 83 = .ok (.bastore, 1) := by decide +kernel
theorem dX6_place_84 : decode cX6_place 84 = .ok (.aload_n 0, 1) := by decide +kernel
theorem dX6_place_85 : decode cX6_place 85 = .ok (.dup, 1) := by decide +kernel
theorem dX6_place_86 : decode cX6_place 86 = .ok (.getfield 95, 3) := by decide +kernel
theorem dX6_place_89 : decode cX6_place 89 = .ok (.iconst 1, 1) := by decide +kernel
theorem dX6_place_90 : decode cX6_place 90 = .ok (.iadd, 1) := by decide +kernel
theorem dX6_place_91 : decode cX6_place 91 = .ok (.putfield 95, 3) := by decide +kernel
theorem dX6_place_94 : decode cX6_place 94 = .ok (.aload_n 0, 1) := by decide +kernel
theorem dX6_place_95 : decode cX6_place 95 = .ok (.getfield 38, 3) := by decide +kernel
theorem dX6_place_98 : decode cX6_place 98 = .ok (.iload_n 1, 1) := by decide +kernel
theorem dX6_place_99 : decode cX6_place 99 = .ok (.dup2, 1) := by decide +kernel
theorem dX6_place_100 : decode cX6_place 100 = .ok (.iaload, 1) := by decide +kernel
theorem dX6_place_101 : decode cX6_place 101 = .ok (.iconst 1, 1) := by decide +kernel
theorem dX6_place_102 : decode cX6_place 102 = .ok (.iadd, 1) := by decide +kernel
theorem dX6_place_103 : decode cX6_place 103 = .ok (.iastore, 1) := by decide +kernel
theorem dX6_place_104 : decode cX6_place 104 = .ok (.aload_n 0, 1) := by decide +kernel
theorem dX6_place_105 : decode cX6_place 105 = .ok (.getfield 26, 3) := by decide +kernel
theorem dX6_place_108 : decode cX6_place 108 = .ok (.iload_n 1, 1) := by decide +kernel
theorem dX6_place_109 : decode cX6_place 109 = .ok (.dup2, 1) := by decide +kernel
theorem dX6_place_110 : decode cX6_place 110 = .ok (.iaload, 1) := by decide +kernel
theorem dX6_place_111 : decode cX6_place 111 = .ok (.iload_n 2, 1) := by decide +kernel
theorem dX6_place_112 : decode cX6_place 112 = .ok (.isub, 1) := by decide +kernel
theorem dX6_place_113 : decode cX6_place 113 = .ok (.iastore, 1) := by decide +kernel
theorem dX6_place_114 : decode cX6_place 114 = .ok (.return_, 1) := by decide +kernel
theorem dX6_go_0 : decode cX6_go 0 = .ok (.aload_n 0, 1) := by decide +kernel
theorem dX6_go_1 : decode cX6_go 1 = .ok (.getfield 65, 3) := by decide +kernel
theorem dX6_go_4 : decode cX6_go 4 = .ok (.aload_n 0, 1) := by decide +kernel
theorem dX6_go_5 : decode cX6_go 5 = .ok (.getfield 98, 3) := by decide +kernel
theorem dX6_go_8 : decode cX6_go 8 = .ok (.iload_n 1, 1) := by decide +kernel
theorem dX6_go_9 : decode cX6_go 9 = .ok (.iastore, 1) := by decide +kernel
theorem dX6_go_10 : decode cX6_go 10 = .ok (.aload_n 0, 1) := by decide +kernel
theorem dX6_go_11 : decode cX6_go 11 = .ok (.dup, 1) := by decide +kernel
theorem dX6_go_12 : decode cX6_go 12 = .ok (.getfield 98, 3) := by decide +kernel
theorem dX6_go_15 : decode cX6_go 15 = .ok (.iconst 1, 1) := by decide +kernel
theorem dX6_go_16 : decode cX6_go 16 = .ok (.iadd, 1) := by decide +kernel
theorem dX6_go_17 : decode cX6_go 17 = .ok (.putfield 98, 3) := by decide +kernel
theorem dX6_go_20 : decode cX6_go 20 = .ok (.aload_n 0, 1) := by decide +kernel
theorem dX6_go_21 : decode cX6_go 21 = .ok (.getfield 23, 3) := by decide +kernel
theorem dX6_go_24 : decode cX6_go 24 = .ok (.iload_n 1, 1) := by decide +kernel
theorem dX6_go_25 : decode cX6_go 25 = .ok (.iaload, 1) := by decide +kernel
theorem dX6_go_26 : decode cX6_go 26 = .ok (.istore_n 2, 1) := by decide +kernel
theorem dX6_go_27 : decode cX6_go 27 = .ok (.aload_n 0, 1) := by decide +kernel
theorem dX6_go_28 : decode cX6_go 28 = .ok (.getfield 68, 3) := by decide +kernel
theorem dX6_go_31 : decode cX6_go 31 = .ok (.iload_n 2, 1) := by decide +kernel
theorem dX6_go_32 : decode cX6_go 32 = .ok (.baload, 1) := by decide +kernel
theorem dX6_go_33 : decode cX6_go 33 = .ok (.ifCond .eq 4, 3) := by decide +kernel
theorem dX6_go_36 : decode cX6_go 36 = .ok (.return_, 1) := by decide +kernel
theorem dX6_go_37 : decode cX6_go 37 = .ok (.aload_n 0, 1) := by decide +kernel
theorem dX6_go_38 : decode cX6_go 38 = .ok (.aload_n 0, 1) := by decide +kernel
theorem dX6_go_39 : decode cX6_go 39 = .ok (.getfield 86, 3) := by decide +kernel
theorem dX6_go_42 : decode cX6_go 42 = .ok (.iconst (-1), 1) := by decide +kernel
theorem dX6_go_43 : decode cX6_go 43 = .ok (.invokevirtual 101, 3) := by decide +kernel
theorem dX6_go_46 : decode cX6_go 46 = .ok (.istore_n 3, 1) := by decide +kernel
theorem dX6_go_47 : decode cX6_go 47 = .ok (.aload_n 0, 1) := by decide +kernel
theorem dX6_go_48 : decode cX6_go 48 = .ok (.getfield 71, 3) := by decide +kernel
theorem dX6_go_51 : decode cX6_go 51 = .ok (.iload_n 3, 1) := by decide +kernel
theorem dX6_go_52 : decode cX6_go 52 = .ok (.isub, 1) := by decide +kernel
theorem dX6_go_53 : decode cX6_go 53 = .ok (.istore 4, 2) := by decide +kernel
theorem dX6_go_55 : decode cX6_go 55 = .ok (.aload_n 0, 1) := by decide +kernel
theorem dX6_go_56 : decode cX6_go 56 = .ok (.getfield 7, 3) := by decide +kernel
theorem dX6_go_59 : decode cX6_go 59 = .ok (.iload_n 2, 1) := by decide +kernel
theorem dX6_go_60 : decode cX6_go 60 = .ok (.iaload, 1) := by decide +kernel
theorem dX6_go_61 : decode cX6_go 61 = .ok (.aload_n 0, 1) := by decide +kernel
theorem dX6_go_62 : decode cX6_go 62 = .ok (.aload_n 0, 1) := by decide +kernel
theorem dX6_go_63 : decode cX6_go 63 = .ok (.getfield 86, 3) := by decide +kernel
theorem dX6_go_66 : decode cX6_go 66 = .ok (.iload_n 2, 1) := by decide +kernel
theorem dX6_go_67 : decode cX6_go 67 = .ok (.invokevirtual 101, 3) := by decide +kernel
theorem dX6_go_70 : decode cX6_go 70 = .ok (.isub, 1) := by decide +kernel
theorem dX6_go_71 : decode cX6_go 71 = .ok (.istore 5, 2) := by decide +kernel
theorem dX6_go_73 : decode cX6_go 73 = .ok (.aload_n 0, 1) := by decide +kernel
theorem dX6_go_74 : decode cX6_go 74 = .ok (.getfield 7, 3) := by decide +kernel
theorem dX6_go_77 : decode cX6_go 77 = .ok (.iload_n 2, 1) := by decide +kernel
theorem dX6_go_78 : decode cX6_go 78 = .ok (.iaload, 1) := by decide +kernel
theorem dX6_go_79 : decode cX6_go 79 = .ok (.ifCond .lt 15, 3) := by decide +kernel
theorem dX6_go_82 : decode cX6_go 82 = .ok (.iload 5, 2) := by decide +kernel
theorem dX6_go_84 : decode cX6_go 84 = .ok (.iload 4, 2) := by decide +kernel
theorem dX6_go_86 : decode cX6_go 86 = .ok (.if_icmp .ge 8, 3) := by decide +kernel
theorem dX6_go_89 : decode cX6_go 89 = .ok (.iload 5, 2) := by decide +kernel
theorem dX6_go_91 : decode cX6_go 91 = .ok (.goto 5, 3) := by decide +kernel
theorem dX6_go_94 : decode cX6_go 94 = .ok (.iload 4, 2) := by decide +kernel
theorem dX6_go_96 : decode cX6_go 96 = .ok (.istore 4, 2) := by decide +kernel
theorem dX6_go_98 : decode cX6_go 98 = .ok (.iload 4, 2) := by decide +kernel
theorem dX6_go_100 : decode cX6_go 100 = .ok (.ifCond .ge 7, 3) := by decide +kernel
theorem dX6_go_103 : decode cX6_go 103 = .ok (.iconst 0, 1) := by decide +kernel
theorem dX6_go_104 : decode cX6_go 104 = .ok (.goto 5, 3) := by decide +kernel
theorem dX6_go_107 : decode cX6_go 107 = .ok (.iload 4, 2) := by decide +kernel
theorem dX6_go_109 : decode cX6_go 109 = .ok (.istore 4, 2) := by decide +kernel
theorem dX6_go_111 : decode cX6_go 111 = .ok (.aload_n 0, 1) := by decide +kernel
theorem dX6_go_112 : decode cX6_go 112 = .ok (.getfield 26, 3) := by decide +kernel
theorem dX6_go_115 : decode cX6_go 115 = .ok (.iload_n 1, 1) := by decide +kernel
theorem dX6_go_116 : decode cX6_go 116 = .ok (.iaload, 1) := by decide +kernel
theorem dX6_go_117 : decode cX6_go 117 = .ok (.iload 4, 2) := by decide +kernel
theorem dX6_go_119 : decode cX6_go 119 = .ok (.if_icmp .gt 18, 3) := by decide +kernel
theorem dX6_go_122 : decode cX6_go 122 = .ok (.aload_n 0, 1) := by decide +kernel
theorem dX6_go_123 : decode cX6_go 123 = .ok (.iload_n 1, 1) := by decide +kernel
theorem dX6_go_124 : decode cX6_go 124 = .ok (.aload_n 0, 1) := by decide +kernel
theorem dX6_go_125 : decode cX6_go 125 = .ok (.getfield 26, 3) := by decide +kernel
theorem dX6_go_128 : decode cX6_go 128 = .ok (.iload_n 1, 1) := by decide +kernel
theorem dX6_go_129 : decode cX6_go 129 = .ok (.iaload, 1) := by decide +kernel
theorem dX6_go_130 : decode cX6_go 130 = .ok (.iconst 0, 1) := by decide +kernel
theorem dX6_go_131 : decode cX6_go 131 = .ok (.invokevirtual 105, 3) := by decide +kernel
theorem dX6_go_134 : decode cX6_go 134 = .ok (.goto 85, 3) := by decide +kernel
theorem dX6_go_137 : decode cX6_go 137 = .ok (.aload_n 0, 1) := by decide +kernel
theorem dX6_go_138 : decode cX6_go 138 = .ok (.getfield 13, 3) := by decide +kernel
theorem dX6_go_141 : decode cX6_go 141 = .ok (.iload_n 2, 1) := by decide +kernel
theorem dX6_go_142 : decode cX6_go 142 = .ok (.iaload, 1) := by decide +kernel
theorem dX6_go_143 : decode cX6_go 143 = .ok (.ifCond .le 50, 3) := by decide +kernel
theorem dX6_go_146 : decode cX6_go 146 = .ok (.iload 4, 2) := by decide +kernel
theorem dX6_go_148 : decode cX6_go 148 = .ok (.aload_n 0, 1) := by decide +kernel
theorem dX6_go_149 : decode cX6_go 149 = .ok (.getfield 13, 3) := by decide +kernel
theorem dX6_go_152 : decode cX6_go 152 = .ok (.iload_n 2, 1) := by decide +kernel
theorem dX6_go_153 : decode cX6_go 153 = .ok (.iaload, 1) := by decide +kernel
theorem dX6_go_154 : decode cX6_go 154 = .ok (.if_icmp .lt 39, 3) := by decide +kernel
theorem dX6_go_157 : decode cX6_go 157 = .ok (.aload_n 0, 1) := by decide +kernel
theorem dX6_go_158 : decode cX6_go 158 = .ok (.getfield 26, 3) := by decide +kernel
theorem dX6_go_161 : decode cX6_go 161 = .ok (.iload_n 1, 1) := by decide +kernel
theorem dX6_go_162 : decode cX6_go 162 = .ok (.iaload, 1) := by decide +kernel
theorem dX6_go_163 : decode cX6_go 163 = .ok (.iload 4, 2) := by decide +kernel
theorem dX6_go_165 : decode cX6_go 165 = .ok (.isub, 1) := by decide +kernel
theorem dX6_go_166 : decode cX6_go 166 = .ok (.aload_n 0, 1) := by decide +kernel
theorem dX6_go_167 : decode cX6_go 167 = .ok (.getfield 13, 3) := by decide +kernel
theorem dX6_go_170 : decode cX6_go 170 = .ok (.iload_n 2, 1) := by decide +kernel
theorem dX6_go_171 : decode cX6_go 171 = .ok (.iaload, 1) := by decide +kernel
theorem dX6_go_172 : decode cX6_go 172 = .ok (.if_icmp .lt 21, 3) := by decide +kernel
theorem dX6_go_175 : decode cX6_go 175 = .ok (.aload_n 0, 1) := by decide +kernel
theorem dX6_go_176 : decode cX6_go 176 = .ok (.iload_n 1, 1) := by decide +kernel
theorem dX6_go_177 : decode cX6_go 177 = .ok (.iload 4, 2) := by decide +kernel
theorem dX6_go_179 : decode cX6_go 179 = .ok (.iconst 0, 1) := by decide +kernel
theorem dX6_go_180 : decode cX6_go 180 = .ok (.invokevirtual 105, 3) := by decide +kernel
theorem dX6_go_183 : decode cX6_go 183 = .ok (.aload_n 0, 1) := by decide +kernel
theorem dX6_go_184 : decode cX6_go 184 = .ok (.getfield 68, 3) := by decide +kernel
theorem dX6_go_187 : decode cX6_go 187 = .ok (.iload_n 2, 1) := by decide +kernel
theorem dX6_go_188 : decode cX6_go 188 = .ok (.iconst 1, 1) := by decide +kernel
theorem dX6_go_189 : decode cX6_go 189 = .ok (.bastore, 1) := by decide +kernel
theorem dX6_go_190 : decode cX6_go 190 = .ok (.goto 29, 3) := by decide +kernel
theorem dX6_go_193 : decode cX6_go 193 = .ok (.iload_n 3, 1) := by decide +kernel
theorem dX6_go_194 : decode cX6_go 194 = .ok (.ifCond .ne 18, 3) := by decide +kernel
theorem dX6_go_197 : decode cX6_go 197 = .ok (.aload_n 0, 1) := by decide +kernel
theorem dX6_go_198 : decode cX6_go 198 = .ok (.iload_n 1, 1) := by decide +kernel
theorem dX6_go_199 : decode cX6_go 199 = .ok (.aload_n 0, 1) := by decide +kernel
theorem dX6_go_200 : decode cX6_go 200 = .ok (.getfield 26, 3) := by decide +kernel
theorem dX6_go_203 : decode cX6_go 203 = .ok (.iload_n 1, 1) := by decide +kernel
theorem dX6_go_204 : decode cX6_go 204 = .ok (.iaload, 1) := by decide +kernel
theorem dX6_go_205 : decode cX6_go 205 = .ok (.iconst 1, 1) := by decide +kernel
theorem dX6_go_206 : decode cX6_go 206 = .ok (.invokevirtual 105, 3) := by decide +kernel
theorem dX6_go_209 : decode cX6_go 209 = .ok (.goto 10, 3) := by decide +kernel
theorem dX6_go_212 : decode cX6_go 212 = .ok (.aload_n 0, 1) := by decide +kernel
theorem dX6_go_213 : decode cX6_go 213 = .ok (.getfield 68, 3) := by decide +kernel
theorem dX6_go_216 : decode cX6_go 216 = .ok (.iload_n 2, 1) := by decide +kernel
theorem dX6_go_217 : decode cX6_go 217 = .ok (.iconst 1, 1) := by decide +kernel
theorem dX6_go_218 : decode cX6_go 218 = .ok (.bastore, 1) := by decide +kernel
theorem dX6_go_219 : decode cX6_go 219 = .ok (.return_, 1) := by decide +kernel
theorem dX6_waits_0 : decode cX6_waits 0 = .ok (.aload_n 0, 1) := by decide +kernel
theorem dX6_waits_1 : decode cX6_waits 1 = .ok (.getfield 35, 3) := by decide +kernel
theorem dX6_waits_4 : decode cX6_waits 4 = .ok (.iload_n 1, 1) := by decide +kernel
theorem dX6_waits_5 : decode cX6_waits 5 = .ok (.baload, 1) := by decide +kernel
theorem dX6_waits_6 : decode cX6_waits 6 = .ok (.ifCond .ne 29, 3) := by decide +kernel
theorem dX6_waits_9 : decode cX6_waits 9 = .ok (.aload_n 0, 1) := by decide +kernel
theorem dX6_waits_10 : decode cX6_waits 10 = .ok (.getfield 26, 3) := by decide +kernel
theorem dX6_waits_13 : decode cX6_waits 13 = .ok (.iload_n 1, 1) := by decide +kernel
theorem dX6_waits_14 : decode cX6_waits 14 = .ok (.iaload, 1) := by decide +kernel
theorem dX6_waits_15 : decode cX6_waits 15 = .ok (.ifCond .le 20, 3) := by decide +kernel
theorem dX6_waits_18 : decode cX6_waits 18 = .ok (.aload_n 0, 1) := by decide +kernel
theorem dX6_waits_19 : decode cX6_waits 19 = .ok (.getfield 29, 3) := by decide +kernel
theorem dX6_waits_22 : decode cX6_waits 22 = .ok (.iload_n 1, 1) := by decide +kernel
theorem dX6_waits_23 : decode cX6_waits 23 = .ok (.iaload, 1) := by decide +kernel
theorem dX6_waits_24 : decode cX6_waits 24 = .ok (.aload_n 0, 1) := by decide +kernel
theorem dX6_waits_25 : decode cX6_waits 25 = .ok (.getfield 86, 3) := by decide +kernel
theorem dX6_waits_28 : decode cX6_waits 28 = .ok (.if_icmp .gt 7, 3) := by decide +kernel
theorem dX6_waits_31 : decode cX6_waits 31 = .ok (.iconst 1, 1) := by decide +kernel
theorem dX6_waits_32 : decode cX6_waits 32 = .ok (.goto 4, 3) := by decide +kernel
end
section
theorem dX6_waits_35 : decode cX6_waits 35 = .ok (.iconst 0, 1) := by decide +kernel
theorem dX6_waits_36 : decode cX6_waits 36 = .ok (.ireturn, 1) := by decide +kernel
theorem dX6_isIn_0 : decode cX6_isIn 0 = .ok (.iconst 0, 1) := by decide +kernel
theorem dX6_isIn_1 : decode cX6_isIn 1 = .ok (.istore_n 3, 1) := by decide +kernel
theorem dX6_isIn_2 : decode cX6_isIn 2 = .ok (.iconst 0, 1) := by decide +kernel
theorem dX6_isIn_3 : decode cX6_isIn 3 = .ok (.istore 4, 2) := by decide +kernel
theorem dX6_isIn_5 : decode cX6_isIn 5 = .ok (.iload 4, 2) := by decide +kernel
theorem dX6_isIn_7 : decode cX6_isIn 7 = .ok (.iload_n 2, 1) := by decide +kernel
theorem dX6_isIn_8 : decode cX6_isIn 8 = .ok (.if_icmp .ge 30, 3) := by decide +kernel
theorem dX6_isIn_11 : decode cX6_isIn 11 = .ok (.iload_n 3, 1) := by decide +kernel
theorem dX6_isIn_12 : decode cX6_isIn 12 = .ok (.ifCond .ne 14, 3) := by decide +kernel
theorem dX6_isIn_15 : decode cX6_isIn 15 = .ok (.aload_n 0, 1) := by decide +kernel
theorem dX6_isIn_16 : decode cX6_isIn 16 = .ok (.getfield 65, 3) := by decide +kernel
theorem dX6_isIn_19 : decode cX6_isIn 19 = .ok (.iload 4, 2) := by decide +kernel
theorem dX6_isIn_21 : decode cX6_isIn 21 = .ok (.iaload, 1) := by decide +kernel
theorem dX6_isIn_22 : decode cX6_isIn 22 = .ok (.iload_n 1, 1) := by decide +kernel
theorem dX6_isIn_23 : decode cX6_isIn 23 = .ok (.if_icmp .ne 7, 3) := by decide +kernel
theorem dX6_isIn_26 : decode cX6_isIn 26 = .ok (.iconst 1, 1) := by decide +kernel
theorem dX6_isIn_27 : decode cX6_isIn 27 = .ok (.goto 4, 3) := by decide +kernel
theorem dX6_isIn_30 : decode cX6_isIn 30 = .ok (.iconst 0, 1) := by decide +kernel
theorem dX6_isIn_31 : decode cX6_isIn 31 = .ok (.istore_n 3, 1) := by decide +kernel
theorem dX6_isIn_32 : decode cX6_isIn 32 = .ok (.iinc 4 1, 3) := by decide +kernel
theorem dX6_isIn_35 : decode cX6_isIn 35 = .ok (.goto (-30), 3) := by decide +kernel
theorem dX6_isIn_38 : decode cX6_isIn 38 = .ok (.iload_n 3, 1) := by decide +kernel
theorem dX6_isIn_39 : decode cX6_isIn 39 = .ok (.ireturn, 1) := by decide +kernel
theorem dX6_close_0 : decode cX6_close 0 = .ok (.aload_n 0, 1) := by decide +kernel
theorem dX6_close_1 : decode cX6_close 1 = .ok (.getfield 86, 3) := by decide +kernel
theorem dX6_close_4 : decode cX6_close 4 = .ok (.bipush 40, 2) := by decide +kernel
theorem dX6_close_6 : decode cX6_close 6 = .ok (.if_icmp .ne 6, 3) := by decide +kernel
theorem dX6_close_9 : decode cX6_close 9 = .ok (.bipush (-3), 2) := by decide +kernel
theorem dX6_close_11 : decode cX6_close 11 = .ok (.ireturn, 1) := by decide +kernel
theorem dX6_close_12 : decode cX6_close 12 = .ok (.iconst 0, 1) := by decide +kernel
theorem dX6_close_13 : decode cX6_close 13 = .ok (.istore_n 1, 1) := by decide +kernel
theorem dX6_close_14 : decode cX6_close 14 = .ok (.iload_n 1, 1) := by decide +kernel
theorem dX6_close_15 : decode cX6_close 15 = .ok (.bipush 8, 2) := by decide +kernel
theorem dX6_close_17 : decode cX6_close 17 = .ok (.if_icmp .ge 41, 3) := by decide +kernel
theorem dX6_close_20 : decode cX6_close 20 = .ok (.aload_n 0, 1) := by decide +kernel
theorem dX6_close_21 : decode cX6_close 21 = .ok (.getfield 68, 3) := by decide +kernel
theorem dX6_close_24 : decode cX6_close 24 = .ok (.iload_n 1, 1) := by decide +kernel
theorem dX6_close_25 : decode cX6_close 25 = .ok (.iconst 0, 1) := by decide +kernel
theorem dX6_close_26 : decode cX6_close 26 = .ok (.bastore, 1) := by decide +kernel
theorem dX6_close_27 : decode cX6_close 27 = .ok (.aload_n 0, 1) := by decide +kernel
theorem dX6_close_28 : decode cX6_close 28 = .ok (.getfield 20, 3) := by decide +kernel
theorem dX6_close_31 : decode cX6_close 31 = .ok (.iload_n 1, 1) := by decide +kernel
theorem dX6_close_32 : decode cX6_close 32 = .ok (.aload_n 0, 1) := by decide +kernel
theorem dX6_close_33 : decode cX6_close 33 = .ok (.getfield 16, 3) := by decide +kernel
theorem dX6_close_36 : decode cX6_close 36 = .ok (.iload_n 1, 1) := by decide +kernel
theorem dX6_close_37 : decode cX6_close 37 = .ok (.baload, 1) := by decide +kernel
theorem dX6_close_38 : decode cX6_close 38 = .ok (.ifCond .eq 7, 3) := by decide +kernel
theorem dX6_close_41 : decode cX6_close 41 = .ok (.iconst 0, 1) := by decide +kernel
theorem dX6_close_42 : decode cX6_close 42 = .ok (.goto 9, 3) := by decide +kernel
theorem dX6_close_45 : decode cX6_close 45 = .ok (.aload_n 0, 1) := by decide +kernel
theorem dX6_close_46 : decode cX6_close 46 = .ok (.getfield 20, 3) := by decide +kernel
theorem dX6_close_49 : decode cX6_close 49 = .ok (.iload_n 1, 1) := by decide +kernel
theorem dX6_close_50 : decode cX6_close 50 = .ok (.iaload, 1) := by decide +kernel
theorem dX6_close_51 : decode cX6_close 51 = .ok (.iastore, 1) := by decide +kernel
theorem dX6_close_52 : decode cX6_close 52 = .ok (.iinc 1 1, 3) := by decide +kernel
theorem dX6_close_55 : decode cX6_close 55 = .ok (.goto (-41), 3) := by decide +kernel
theorem dX6_close_58 : decode cX6_close 58 = .ok (.aload_n 0, 1) := by decide +kernel
theorem dX6_close_59 : decode cX6_close 59 = .ok (.getfield 95, 3) := by decide +kernel
theorem dX6_close_62 : decode cX6_close 62 = .ok (.istore_n 1, 1) := by decide +kernel
theorem dX6_close_63 : decode cX6_close 63 = .ok (.aload_n 0, 1) := by decide +kernel
theorem dX6_close_64 : decode cX6_close 64 = .ok (.iconst 0, 1) := by decide +kernel
theorem dX6_close_65 : decode cX6_close 65 = .ok (.putfield 98, 3) := by decide +kernel
theorem dX6_close_68 : decode cX6_close 68 = .ok (.iconst 0, 1) := by decide +kernel
theorem dX6_close_69 : decode cX6_close 69 = .ok (.istore_n 2, 1) := by decide +kernel
theorem dX6_close_70 : decode cX6_close 70 = .ok (.iload_n 2, 1) := by decide +kernel
theorem dX6_close_71 : decode cX6_close 71 = .ok (.aload_n 0, 1) := by decide +kernel
theorem dX6_close_72 : decode cX6_close 72 = .ok (.getfield 109, 3) := by decide +kernel
theorem dX6_close_75 : decode cX6_close 75 = .ok (.if_icmp .ge 32, 3) := by decide +kernel
theorem dX6_close_78 : decode cX6_close 78 = .ok (.aload_n 0, 1) := by decide +kernel
theorem dX6_close_79 : decode cX6_close 79 = .ok (.aload_n 0, 1) := by decide +kernel
theorem dX6_close_80 : decode cX6_close 80 = .ok (.getfield 62, 3) := by decide +kernel
theorem dX6_close_83 : decode cX6_close 83 = .ok (.iload_n 2, 1) := by decide +kernel
theorem dX6_close_84 : decode cX6_close 84 = .ok (.iaload, 1) := by decide +kernel
theorem dX6_close_85 : decode cX6_close 85 = .ok (.invokevirtual 112, 3) := by decide +kernel
theorem dX6_close_88 : decode cX6_close 88 = .ok (.ifCond .eq 13, 3) := by decide +kernel
theorem dX6_close_91 : decode cX6_close 91 = .ok (.aload_n 0, 1) := by decide +kernel
theorem dX6_close_92 : decode cX6_close 92 = .ok (.aload_n 0, 1) := by decide +kernel
theorem dX6_close_93 : decode cX6_close 93 = .ok (.getfield 62, 3) := by decide +kernel
theorem dX6_close_96 : decode cX6_close 96 = .ok (.iload_n 2, 1) := by decide +kernel
theorem dX6_close_97 : decode cX6_close 97 = .ok (.iaload, 1) := by decide +kernel
theorem dX6_close_98 : decode cX6_close 98 = .ok (.invokevirtual 115, 3) := by decide +kernel
theorem dX6_close_101 : decode cX6_close 101 = .ok (.iinc 2 1, 3) := by decide +kernel
theorem dX6_close_104 : decode cX6_close 104 = .ok (.goto (-34), 3) := by decide +kernel
theorem dX6_close_107 : decode cX6_close 107 = .ok (.aload_n 0, 1) := by decide +kernel
theorem dX6_close_108 : decode cX6_close 108 = .ok (.getfield 98, 3) := by decide +kernel
theorem dX6_close_111 : decode cX6_close 111 = .ok (.istore_n 2, 1) := by decide +kernel
theorem dX6_close_112 : decode cX6_close 112 = .ok (.iconst 0, 1) := by decide +kernel
theorem dX6_close_113 : decode cX6_close 113 = .ok (.istore_n 3, 1) := by decide +kernel
theorem dX6_close_114 : decode cX6_close 114 = .ok (.iload_n 3, 1) := by decide +kernel
theorem dX6_close_115 : decode cX6_close 115 = .ok (.aload_n 0, 1) := by decide +kernel
theorem dX6_close_116 : decode cX6_close 116 = .ok (.getfield 89, 3) := by decide +kernel
theorem dX6_close_119 : decode cX6_close 119 = .ok (.if_icmp .ge 31, 3) := by decide +kernel
theorem dX6_close_122 : decode cX6_close 122 = .ok (.aload_n 0, 1) := by decide +kernel
theorem dX6_close_123 : decode cX6_close 123 = .ok (.iload_n 3, 1) := by decide +kernel
theorem dX6_close_124 : decode cX6_close 124 = .ok (.invokevirtual 112, 3) := by decide +kernel
theorem dX6_close_127 : decode cX6_close 127 = .ok (.ifCond .eq 17, 3) := by decide +kernel
theorem dX6_close_130 : decode cX6_close 130 = .ok (.aload_n 0, 1) := by decide +kernel
theorem dX6_close_131 : decode cX6_close 131 = .ok (.iload_n 3, 1) := by decide +kernel
theorem dX6_close_132 : decode cX6_close 132 = .ok (.iload_n 2, 1) := by decide +kernel
theorem dX6_close_133 : decode cX6_close 133 = .ok (.invokevirtual 119, 3) := by decide +kernel
theorem dX6_close_136 : decode cX6_close 136 = .ok (.ifCond .ne 8, 3) := by decide +kernel
theorem dX6_close_139 : decode cX6_close 139 = .ok (.aload_n 0, 1) := by decide +kernel
theorem dX6_close_140 : decode cX6_close 140 = .ok (.iload_n 3, 1) := by decide +kernel
theorem dX6_close_141 : decode cX6_close 141 = .ok (.invokevirtual 115, 3) := by decide +kernel
theorem dX6_close_144 : decode cX6_close 144 = .ok (.iinc 3 1, 3) := by decide +kernel
theorem dX6_close_147 : decode cX6_close 147 = .ok (.goto (-33), 3) := by decide +kernel
theorem dX6_close_150 : decode cX6_close 150 = .ok (.aload_n 0, 1) := by decide +kernel
theorem dX6_close_151 : decode cX6_close 151 = .ok (.aload_n 0, 1) := by decide +kernel
theorem dX6_close_152 : decode cX6_close 152 = .ok (.getfield 98, 3) := by decide +kernel
theorem dX6_close_155 : decode cX6_close 155 = .ok (.putfield 109, 3) := by decide +kernel
theorem dX6_close_158 : decode cX6_close 158 = .ok (.iconst 0, 1) := by decide +kernel
theorem dX6_close_159 : decode cX6_close 159 = .ok (.istore_n 3, 1) := by decide +kernel
theorem dX6_close_160 : decode cX6_close 160 = .ok (.iload_n 3, 1) := by decide +kernel
theorem dX6_close_161 : decode cX6_close 161 = .ok (.aload_n 0, 1) := by decide +kernel
theorem dX6_close_162 : decode cX6_close 162 = .ok (.getfield 98, 3) := by decide +kernel
theorem dX6_close_165 : decode cX6_close 165 = .ok (.if_icmp .ge 21, 3) := by decide +kernel
theorem dX6_close_168 : decode cX6_close 168 = .ok (.aload_n 0, 1) := by decide +kernel
theorem dX6_close_169 : decode cX6_close 169 = .ok (.getfield 62, 3) := by decide +kernel
theorem dX6_close_172 : decode cX6_close 172 = .ok (.iload_n 3, 1) := by decide +kernel
theorem dX6_close_173 : decode cX6_close 173 = .ok (.aload_n 0, 1) := by decide +kernel
theorem dX6_close_174 : decode cX6_close 174 = .ok (.getfield 65, 3) := by decide +kernel
theorem dX6_close_177 : decode cX6_close 177 = .ok (.iload_n 3, 1) := by decide +kernel
theorem dX6_close_178 : decode cX6_close 178 = .ok (.iaload, 1) := by decide +kernel
theorem dX6_close_179 : decode cX6_close 179 = .ok (.iastore, 1) := by decide +kernel
theorem dX6_close_180 : decode cX6_close 180 = .ok (.iinc 3 1, 3) := by decide +kernel
theorem dX6_close_183 : decode cX6_close 183 = .ok (.goto (-23), 3) := by decide +kernel
theorem dX6_close_186 : decode cX6_close 186 = .ok (.aload_n 0, 1) := by decide +kernel
theorem dX6_close_187 : decode cX6_close 187 = .ok (.dup, 1) := by decide +kernel
theorem dX6_close_188 : decode cX6_close 188 = .ok (.getfield 86, 3) := by decide +kernel
theorem dX6_close_191 : decode cX6_close 191 = .ok (.iconst 1, 1) := by decide +kernel
theorem dX6_close_192 : decode cX6_close 192 = .ok (.iadd, 1) := by decide +kernel
theorem dX6_close_193 : decode cX6_close 193 = .ok (.putfield 86, 3) := by decide +kernel
theorem dX6_close_196 : decode cX6_close 196 = .ok (.aload_n 0, 1) := by decide +kernel
theorem dX6_close_197 : decode cX6_close 197 = .ok (.getfield 95, 3) := by decide +kernel
theorem dX6_close_200 : decode cX6_close 200 = .ok (.iload_n 1, 1) := by decide +kernel
theorem dX6_close_201 : decode cX6_close 201 = .ok (.isub, 1) := by decide +kernel
theorem dX6_close_202 : decode cX6_close 202 = .ok (.ireturn, 1) := by decide +kernel
theorem dX6_heldAt_0 : decode cX6_heldAt 0 = .ok (.iload_n 1, 1) := by decide +kernel
theorem dX6_heldAt_1 : decode cX6_heldAt 1 = .ok (.istore_n 2, 1) := by decide +kernel
theorem dX6_heldAt_2 : decode cX6_heldAt 2 = .ok (.iconst 0, 1) := by decide +kernel
theorem dX6_heldAt_3 : decode cX6_heldAt 3 = .ok (.istore_n 3, 1) := by decide +kernel
theorem dX6_heldAt_4 : decode cX6_heldAt 4 = .ok (.iload_n 3, 1) := by decide +kernel
theorem dX6_heldAt_5 : decode cX6_heldAt 5 = .ok (.aload_n 0, 1) := by decide +kernel
theorem dX6_heldAt_6 : decode cX6_heldAt 6 = .ok (.getfield 109, 3) := by decide +kernel
theorem dX6_heldAt_9 : decode cX6_heldAt 9 = .ok (.if_icmp .ge 77, 3) := by decide +kernel
theorem dX6_heldAt_12 : decode cX6_heldAt 12 = .ok (.iload_n 1, 1) := by decide +kernel
theorem dX6_heldAt_13 : decode cX6_heldAt 13 = .ok (.ifCond .lt 73, 3) := by decide +kernel
theorem dX6_heldAt_16 : decode cX6_heldAt 16 = .ok (.aload_n 0, 1) := by decide +kernel
theorem dX6_heldAt_17 : decode cX6_heldAt 17 = .ok (.getfield 35, 3) := by decide +kernel
theorem dX6_heldAt_20 : decode cX6_heldAt 20 = .ok (.aload_n 0, 1) := by decide +kernel
theorem dX6_heldAt_21 : decode cX6_heldAt 21 = .ok (.getfield 62, 3) := by decide +kernel
theorem dX6_heldAt_24 : decode cX6_heldAt 24 = .ok (.iload_n 3, 1) := by decide +kernel
theorem dX6_heldAt_25 : decode cX6_heldAt 25 = .ok (.iaload, 1) := by decide +kernel
theorem dX6_heldAt_26 : decode cX6_heldAt 26 = .ok (.baload, 1) := by decide +kernel
theorem dX6_heldAt_27 : decode cX6_heldAt 27 = .ok (.ifCond .ne 21, 3) := by decide +kernel
theorem dX6_heldAt_30 : decode cX6_heldAt 30 = .ok (.aload_n 0, 1) := by decide +kernel
theorem dX6_heldAt_31 : decode cX6_heldAt 31 = .ok (.getfield 26, 3) := by decide +kernel
theorem dX6_heldAt_34 : decode cX6_heldAt 34 = .ok (.aload_n 0, 1) := by decide +kernel
theorem dX6_heldAt_35 : decode cX6_heldAt 35 = .ok (.getfield 62, 3) := by decide +kernel
theorem dX6_heldAt_38 : decode cX6_heldAt 38 = .ok (.iload_n 3, 1) := by decide +kernel
theorem dX6_heldAt_39 : decode cX6_heldAt 39 = .ok (.iaload, 1) := by decide +kernel
theorem dX6_heldAt_40 : decode cX6_heldAt 40 = .ok (.iaload, 1) := by decide +kernel
theorem dX6_heldAt_41 : decode cX6_heldAt 41 = .ok (.ifCond .le 7, 3) := by decide +kernel
theorem dX6_heldAt_44 : decode cX6_heldAt 44 = .ok (.iconst 1, 1) := by decide +kernel
theorem dX6_heldAt_45 : decode cX6_heldAt 45 = .ok (.goto 4, 3) := by decide +kernel
theorem dX6_heldAt_48 : decode cX6_heldAt 48 = .ok (.iconst 0, 1) := by decide +kernel
theorem dX6_heldAt_49 : decode cX6_heldAt 49 = .ok (.istore 4, 2) := by decide +kernel
theorem dX6_heldAt_51 : decode cX6_heldAt 51 = .ok (.iload 4, 2) := by decide +kernel
theorem dX6_heldAt_53 : decode cX6_heldAt 53 = .ok (.ifCond .eq 14, 3) := by decide +kernel
theorem dX6_heldAt_56 : decode cX6_heldAt 56 = .ok (.iload_n 2, 1) := by decide +kernel
theorem dX6_heldAt_57 : decode cX6_heldAt 57 = .ok (.ifCond .ne 10, 3) := by decide +kernel
theorem dX6_heldAt_60 : decode cX6_heldAt 60 = .ok (.aload_n 0, 1) := by decide +kernel
theorem dX6_heldAt_61 : decode cX6_heldAt 61 = .ok (.getfield 62, 3) := by decide +kernel
theorem dX6_heldAt_64 : decode cX6_heldAt 64 = .ok (.iload_n 3, 1) := by decide +kernel
theorem dX6_heldAt_65 : decode cX6_heldAt 65 = .ok (.iaload, 1) := by decide +kernel
theorem dX6_heldAt_66 : decode cX6_heldAt 66 = .ok (.ireturn, 1) := by decide +kernel
theorem dX6_heldAt_67 : decode cX6_heldAt 67 = .ok (.iload_n 2, 1) := by decide +kernel
theorem dX6_heldAt_68 : decode cX6_heldAt 68 = .ok (.iload 4, 2) := by decide +kernel
theorem dX6_heldAt_70 : decode cX6_heldAt 70 = .ok (.ifCond .eq 7, 3) := by decide +kernel
theorem dX6_heldAt_73 : decode cX6_heldAt 73 = .ok (.iconst 1, 1) := by decide +kernel
theorem dX6_heldAt_74 : decode cX6_heldAt 74 = .ok (.goto 4, 3) := by decide +kernel
theorem dX6_heldAt_77 : decode cX6_heldAt 77 = .ok (.iconst 0, 1) := by decide +kernel
theorem dX6_heldAt_78 : decode cX6_heldAt 78 = .ok (.isub, 1) := by decide +kernel
theorem dX6_heldAt_79 : decode cX6_heldAt 79 = .ok (.istore_n 2, 1) := by decide +kernel
theorem dX6_heldAt_80 : decode cX6_heldAt 80 = .ok (.iinc 3 1, 3) := by decide +kernel
theorem dX6_heldAt_83 : decode cX6_heldAt 83 = .ok (.goto (-79), 3) := by decide +kernel
theorem dX6_heldAt_86 : decode cX6_heldAt 86 = .ok (.iconst (-1), 1) := by decide +kernel
theorem dX6_heldAt_87 : decode cX6_heldAt 87 = .ok (.ireturn, 1) := by decide +kernel
theorem dX6_flush_0 : decode cX6_flush 0 = .ok (.iconst 0, 1) := by decide +kernel
theorem dX6_flush_1 : decode cX6_flush 1 = .ok (.istore_n 1, 1) := by decide +kernel
theorem dX6_flush_2 : decode cX6_flush 2 = .ok (.aload_n 0, 1) := by decide +kernel
theorem dX6_flush_3 : decode cX6_flush 3 = .ok (.iconst 0, 1) := by decide +kernel
theorem dX6_flush_4 : decode cX6_flush 4 = .ok (.invokevirtual 123, 3) := by decide +kernel
theorem dX6_flush_7 : decode cX6_flush 7 = .ok (.ifCond .lt 23, 3) := by decide +kernel
theorem dX6_flush_10 : decode cX6_flush 10 = .ok (.aload_n 0, 1) := by decide +kernel
theorem dX6_flush_11 : decode cX6_flush 11 = .ok (.getfield 86, 3) := by decide +kernel
theorem dX6_flush_14 : decode cX6_flush 14 = .ok (.bipush 40, 2) := by decide +kernel
theorem dX6_flush_16 : decode cX6_flush 16 = .ok (.if_icmp .ge 14, 3) := by decide +kernel
theorem dX6_flush_19 : decode cX6_flush 19 = .ok (.aload_n 0, 1) := by decide +kernel
theorem dX6_flush_20 : decode cX6_flush 20 = .ok (.invokevirtual 127, 3) := by decide +kernel
theorem dX6_flush_23 : decode cX6_flush 23 = .ok (.istore_n 2, 1) := by decide +kernel
theorem dX6_flush_24 : decode cX6_flush 24 = .ok (.iinc 1 1, 3) := by decide +kernel
theorem dX6_flush_27 : decode cX6_flush 27 = .ok (.goto (-25), 3) := by decide +kernel
theorem dX6_flush_30 : decode cX6_flush 30 = .ok (.iload_n 1, 1) := by decide +kernel
theorem dX6_flush_31 : decode cX6_flush 31 = .ok (.ireturn, 1) := by decide +kernel
theorem dX6_cancel_0 : decode cX6_cancel 0 = .ok (.iload_n 1, 1) := by decide +kernel
theorem dX6_cancel_1 : decode cX6_cancel 1 = .ok (.iconst 0, 1) := by decide +kernel
theorem dX6_cancel_2 : decode cX6_cancel 2 = .ok (.aload_n 0, 1) := by decide +kernel
theorem dX6_cancel_3 : decode cX6_cancel 3 = .ok (.getfield 89, 3) := by decide +kernel
theorem dX6_cancel_6 : decode cX6_cancel 6 = .ok (.iconst 1, 1) := by decide +kernel
theorem dX6_cancel_7 : decode cX6_cancel 7 = .ok (.isub, 1) := by decide +kernel
theorem dX6_cancel_8 : decode cX6_cancel 8 = .ok (.invokestatic 78, 3) := by decide +kernel
theorem dX6_cancel_11 : decode cX6_cancel 11 = .ok (.ifCond .ne 5, 3) := by decide +kernel
theorem dX6_cancel_14 : decode cX6_cancel 14 = .ok (.iconst (-1), 1) := by decide +kernel
theorem dX6_cancel_15 : decode cX6_cancel 15 = .ok (.ireturn, 1) := by decide +kernel
theorem dX6_cancel_16 : decode cX6_cancel 16 = .ok (.aload_n 0, 1) := by decide +kernel
theorem dX6_cancel_17 : decode cX6_cancel 17 = .ok (.getfield 38, 3) := by decide +kernel
theorem dX6_cancel_20 : decode cX6_cancel 20 = .ok (.iload_n 1, 1) := by decide +kernel
theorem dX6_cancel_21 : decode cX6_cancel 21 = .ok (.iaload, 1) := by decide +kernel
theorem dX6_cancel_22 : decode cX6_cancel 22 = .ok (.ifCond .gt 12, 3) := by decide +kernel
theorem dX6_cancel_25 : decode cX6_cancel 25 = .ok (.aload_n 0, 1) := by decide +kernel
theorem dX6_cancel_26 : decode cX6_cancel 26 = .ok (.getfield 35, 3) := by decide +kernel
theorem dX6_cancel_29 : decode cX6_cancel 29 = .ok (.iload_n 1, 1) := by decide +kernel
theorem dX6_cancel_30 : decode cX6_cancel 30 = .ok (.baload, 1) := by decide +kernel
theorem dX6_cancel_31 : decode cX6_cancel 31 = .ok (.ifCond .eq 6, 3) := by decide +kernel
theorem dX6_cancel_34 : decode cX6_cancel 34 = .ok (.bipush (-3), 2) := by decide +kernel
theorem dX6_cancel_36 : decode cX6_cancel 36 = .ok (.ireturn, 1) := by decide +kernel
theorem dX6_cancel_37 : decode cX6_cancel 37 = .ok (.aload_n 0, 1) := by decide +kernel
theorem dX6_cancel_38 : decode cX6_cancel 38 = .ok (.getfield 35, 3) := by decide +kernel
theorem dX6_cancel_41 : decode cX6_cancel 41 = .ok (.iload_n 1, 1) := by decide +kernel
theorem dX6_cancel_42 : decode cX6_cancel 42 = .ok (.iconst 1, 1) := by decide +kernel
theorem dX6_cancel_43 : decode cX6_cancel 43 = .ok (.bastore, 1) := by decide +kernel
theorem dX6_cancel_44 : decode cX6_cancel 44 = .ok (.aload_n 0, 1) := by decide +kernel
theorem dX6_cancel_45 : decode cX6_cancel 45 = .ok (.getfield 26, 3) := by decide +kernel
theorem dX6_cancel_48 : decode cX6_cancel 48 = .ok (.iload_n 1, 1) := by decide +kernel
theorem dX6_cancel_49 : decode cX6_cancel 49 = .ok (.iconst 0, 1) := by decide +kernel
theorem dX6_cancel_50 : decode cX6_cancel 50 = .ok (.iastore, 1) := by decide +kernel
theorem dX6_cancel_51 : decode cX6_cancel 51 = .ok (.iconst 1, 1) := by decide +kernel
theorem dX6_cancel_52 : decode cX6_cancel 52 = .ok (.ireturn, 1) := by decide +kernel
theorem dX6_partAt_0 : decode cX6_partAt 0 = .ok (.iload_n 2, 1) := by decide +kernel
theorem dX6_partAt_1 : decode cX6_partAt 1 = .ok (.istore_n 3, 1) := by decide +kernel
theorem dX6_partAt_2 : decode cX6_partAt 2 = .ok (.iconst 0, 1) := by decide +kernel
theorem dX6_partAt_3 : decode cX6_partAt 3 = .ok (.istore 4, 2) := by decide +kernel
theorem dX6_partAt_5 : decode cX6_partAt 5 = .ok (.iload 4, 2) := by decide +kernel
theorem dX6_partAt_7 : decode cX6_partAt 7 = .ok (.aload_n 0, 1) := by decide +kernel
theorem dX6_partAt_8 : decode cX6_partAt 8 = .ok (.getfield 95, 3) := by decide +kernel
theorem dX6_partAt_11 : decode cX6_partAt 11 = .ok (.if_icmp .ge 34, 3) := by decide +kernel
theorem dX6_partAt_14 : decode cX6_partAt 14 = .ok (.iload_n 2, 1) := by decide +kernel
theorem dX6_partAt_15 : decode cX6_partAt 15 = .ok (.ifCond .lt 30, 3) := by decide +kernel
theorem dX6_partAt_18 : decode cX6_partAt 18 = .ok (.aload_n 0, 1) := by decide +kernel
theorem dX6_partAt_19 : decode cX6_partAt 19 = .ok (.getfield 50, 3) := by decide +kernel
theorem dX6_partAt_22 : decode cX6_partAt 22 = .ok (.iload 4, 2) := by decide +kernel
theorem dX6_partAt_24 : decode cX6_partAt 24 = .ok (.iaload, 1) := by decide +kernel
theorem dX6_partAt_25 : decode cX6_partAt 25 = .ok (.iload_n 1, 1) := by decide +kernel
theorem dX6_partAt_26 : decode cX6_partAt 26 = .ok (.if_icmp .ne 13, 3) := by decide +kernel
theorem dX6_partAt_29 : decode cX6_partAt 29 = .ok (.iload_n 3, 1) := by decide +kernel
theorem dX6_partAt_30 : decode cX6_partAt 30 = .ok (.ifCond .ne 6, 3) := by decide +kernel
theorem dX6_partAt_33 : decode cX6_partAt 33 = .ok (.iload 4, 2) := by decide +kernel
theorem dX6_partAt_35 : decode cX6_partAt 35 = .ok (.ireturn, 1) := by decide +kernel
theorem dX6_partAt_36 : decode cX6_partAt 36 = .ok (.iinc 3 (-1), 3) := by decide +kernel
theorem dX6_partAt_39 : decode cX6_partAt 39 = .ok (.iinc 4 1, 3) := by decide +kernel
theorem dX6_partAt_42 : decode cX6_partAt 42 = .ok (.goto (-37), 3) := by decide +kernel
theorem dX6_partAt_45 : decode cX6_partAt 45 = .ok (.iconst (-1), 1) := by decide +kernel
theorem dX6_partAt_46 : decode cX6_partAt 46 = .ok (.ireturn, 1) := by decide +kernel
theorem dX6_placed_0 : decode cX6_placed 0 = .ok (.aload_n 0, 1) := by decide +kernel
theorem dX6_placed_1 : decode cX6_placed 1 = .ok (.iload_n 1, 1) := by decide +kernel
theorem dX6_placed_2 : decode cX6_placed 2 = .ok (.iload_n 2, 1) := by decide +kernel
theorem dX6_placed_3 : decode cX6_placed 3 = .ok (.invokevirtual 131, 3) := by decide +kernel
theorem dX6_placed_6 : decode cX6_placed 6 = .ok (.istore 4, 2) := by decide +kernel
theorem dX6_placed_8 : decode cX6_placed 8 = .ok (.iload 4, 2) := by decide +kernel
theorem dX6_placed_10 : decode cX6_placed 10 = .ok (.ifCond .lt 12, 3) := by decide +kernel
theorem dX6_placed_13 : decode cX6_placed 13 = .ok (.iload_n 3, 1) := by decide +kernel
theorem dX6_placed_14 : decode cX6_placed 14 = .ok (.iconst 0, 1) := by decide +kernel
theorem dX6_placed_15 : decode cX6_placed 15 = .ok (.iconst 3, 1) := by decide +kernel
theorem dX6_placed_16 : decode cX6_placed 16 = .ok (.invokestatic 78, 3) := by decide +kernel
theorem dX6_placed_19 : decode cX6_placed 19 = .ok (.ifCond .ne 5, 3) := by decide +kernel
theorem dX6_placed_22 : decode cX6_placed 22 = .ok (.iconst (-1), 1) := by decide +kernel
theorem dX6_placed_23 : decode cX6_placed 23 = .ok (.ireturn, 1) := by decide +kernel
theorem dX6_placed_24 : decode cX6_placed 24 = .ok (.iload_n 3, 1) := by decide +kernel
theorem dX6_placed_25 : decode cX6_placed 25 = .ok (.ifCond .ne 13, 3) := by decide +kernel
theorem dX6_placed_28 : decode cX6_placed 28 = .ok (.aload_n 0, 1) := by decide +kernel
theorem dX6_placed_29 : decode cX6_placed 29 = .ok (.getfield 53, 3) := by decide +kernel
theorem dX6_placed_32 : decode cX6_placed 32 = .ok (.iload 4, 2) := by decide +kernel
theorem dX6_placed_34 : decode cX6_placed 34 = .ok (.iaload, 1) := by decide +kernel
theorem dX6_placed_35 : decode cX6_placed 35 = .ok (.goto 53, 3) := by decide +kernel
theorem dX6_placed_38 : decode cX6_placed 38 = .ok (.iload_n 3, 1) := by decide +kernel
theorem dX6_placed_39 : decode cX6_placed 39 = .ok (.iconst 1, 1) := by decide +kernel
theorem dX6_placed_40 : decode cX6_placed 40 = .ok (.if_icmp .ne 13, 3) := by decide +kernel
theorem dX6_placed_43 : decode cX6_placed 43 = .ok (.aload_n 0, 1) := by decide +kernel
theorem dX6_placed_44 : decode cX6_placed 44 = .ok (.getfield 56, 3) := by decide +kernel
theorem dX6_placed_47 : decode cX6_placed 47 = .ok (.iload 4, 2) := by decide +kernel
theorem dX6_placed_49 : decode cX6_placed 49 = .ok (.iaload, 1) := by decide +kernel
theorem dX6_placed_50 : decode cX6_placed 50 = .ok (.goto 38, 3) := by decide +kernel
theorem dX6_placed_53 : decode cX6_placed 53 = .ok (.iload_n 3, 1) := by decide +kernel
theorem dX6_placed_54 : decode cX6_placed 54 = .ok (.iconst 2, 1) := by decide +kernel
theorem dX6_placed_55 : decode cX6_placed 55 = .ok (.if_icmp .ne 18, 3) := by decide +kernel
theorem dX6_placed_58 : decode cX6_placed 58 = .ok (.aload_n 0, 1) := by decide +kernel
theorem dX6_placed_59 : decode cX6_placed 59 = .ok (.getfield 32, 3) := by decide +kernel
theorem dX6_placed_62 : decode cX6_placed 62 = .ok (.aload_n 0, 1) := by decide +kernel
theorem dX6_placed_63 : decode cX6_placed 63 = .ok (.getfield 53, 3) := by decide +kernel
theorem dX6_placed_66 : decode cX6_placed 66 = .ok (.iload 4, 2) := by decide +kernel
theorem dX6_placed_68 : decode cX6_placed 68 = .ok (.iaload, 1) := by decide +kernel
theorem dX6_placed_69 : decode cX6_placed 69 = .ok (.iaload, 1) := by decide +kernel
theorem dX6_placed_70 : decode cX6_placed 70 = .ok (.goto 18, 3) := by decide +kernel
theorem dX6_placed_73 : decode cX6_placed 73 = .ok (.aload_n 0, 1) := by decide +kernel
theorem dX6_placed_74 : decode cX6_placed 74 = .ok (.getfield 59, 3) := by decide +kernel
theorem dX6_placed_77 : decode cX6_placed 77 = .ok (.iload 4, 2) := by decide +kernel
theorem dX6_placed_79 : decode cX6_placed 79 = .ok (.baload, 1) := by decide +kernel
theorem dX6_placed_80 : decode cX6_placed 80 = .ok (.ifCond .eq 7, 3) := by decide +kernel
theorem dX6_placed_83 : decode cX6_placed 83 = .ok (.iconst 1, 1) := by decide +kernel
theorem dX6_placed_84 : decode cX6_placed 84 = .ok (.goto 4, 3) := by decide +kernel
theorem dX6_placed_87 : decode cX6_placed 87 = .ok (.iconst 0, 1) := by decide +kernel
theorem dX6_placed_88 : decode cX6_placed 88 = .ok (.ireturn, 1) := by decide +kernel
theorem dX6_about_0 : decode cX6_about 0 = .ok (.iload_n 1, 1) := by decide +kernel
theorem dX6_about_1 : decode cX6_about 1 = .ok (.iconst 0, 1) := by decide +kernel
theorem dX6_about_2 : decode cX6_about 2 = .ok (.aload_n 0, 1) := by decide +kernel
theorem dX6_about_3 : decode cX6_about 3 = .ok (.getfield 89, 3) := by decide +kernel
theorem dX6_about_6 : decode cX6_about 6 = .ok (.iconst 1, 1) := by decide +kernel
theorem dX6_about_7 : decode cX6_about 7 = .ok (.isub, 1) := by decide +kernel
theorem dX6_about_8 : decode cX6_about 8 = .ok (.invokestatic 78, 3) := by decide +kernel
theorem dX6_about_11 : decode cX6_about 11 = .ok (.ifCond .ne 5, 3) := by decide +kernel
theorem dX6_about_14 : decode cX6_about 14 = .ok (.iconst (-1), 1) := by decide +kernel
theorem dX6_about_15 : decode cX6_about 15 = .ok (.ireturn, 1) := by decide +kernel
theorem dX6_about_16 : decode cX6_about 16 = .ok (.iconst (-1), 1) := by decide +kernel
theorem dX6_about_17 : decode cX6_about 17 = .ok (.istore_n 3, 1) := by decide +kernel
theorem dX6_about_18 : decode cX6_about 18 = .ok (.iconst (-1), 1) := by decide +kernel
theorem dX6_about_19 : decode cX6_about 19 = .ok (.istore 4, 2) := by decide +kernel
theorem dX6_about_21 : decode cX6_about 21 = .ok (.iconst 0, 1) := by decide +kernel
theorem dX6_about_22 : decode cX6_about 22 = .ok (.istore 5, 2) := by decide +kernel
theorem dX6_about_24 : decode cX6_about 24 = .ok (.iload 5, 2) := by decide +kernel
theorem dX6_about_26 : decode cX6_about 26 = .ok (.aload_n 0, 1) := by decide +kernel
theorem dX6_about_27 : decode cX6_about 27 = .ok (.getfield 95, 3) := by decide +kernel
theorem dX6_about_30 : decode cX6_about 30 = .ok (.if_icmp .ge 45, 3) := by decide +kernel
theorem dX6_about_33 : decode cX6_about 33 = .ok (.aload_n 0, 1) := by decide +kernel
theorem dX6_about_34 : decode cX6_about 34 = .ok (.getfield 53, 3) := by decide +kernel
theorem dX6_about_37 : decode cX6_about 37 = .ok (.iload 5, 2) := by decide +kernel
theorem dX6_about_39 : decode cX6_about 39 = .ok (.iaload, 1) := by decide +kernel
theorem dX6_about_40 : decode cX6_about 40 = .ok (.iload_n 1, 1) := by decide +kernel
theorem dX6_about_41 : decode cX6_about 41 = .ok (.if_icmp .ne 28, 3) := by decide +kernel
theorem dX6_about_44 : decode cX6_about 44 = .ok (.iload_n 3, 1) := by decide +kernel
theorem dX6_about_45 : decode cX6_about 45 = .ok (.ifCond .ge 13, 3) := by decide +kernel
theorem dX6_about_48 : decode cX6_about 48 = .ok (.aload_n 0, 1) := by decide +kernel
theorem dX6_about_49 : decode cX6_about 49 = .ok (.getfield 50, 3) := by decide +kernel
theorem dX6_about_52 : decode cX6_about 52 = .ok (.iload 5, 2) := by decide +kernel
theorem dX6_about_54 : decode cX6_about 54 = .ok (.iaload, 1) := by decide +kernel
theorem dX6_about_55 : decode cX6_about 55 = .ok (.goto 4, 3) := by decide +kernel
theorem dX6_about_58 : decode cX6_about 58 = .ok (.iload_n 3, 1) := by decide +kernel
theorem dX6_about_59 : decode cX6_about 59 = .ok (.istore_n 3, 1) := by decide +kernel
theorem dX6_about_60 : decode cX6_about 60 = .ok (.aload_n 0, 1) := by decide +kernel
theorem dX6_about_61 : decode cX6_about 61 = .ok (.getfield 50, 3) := by decide +kernel
theorem dX6_about_64 : decode cX6_about 64 = .ok (.iload 5, 2) := by decide +kernel
theorem dX6_about_66 : decode cX6_about 66 = .ok (.iaload, 1) := by decide +kernel
theorem dX6_about_67 : decode cX6_about 67 = .ok (.istore 4, 2) := by decide +kernel
theorem dX6_about_69 : decode cX6_about 69 = .ok (.iinc 5 1, 3) := by decide +kernel
theorem dX6_about_72 : decode cX6_about 72 = .ok (.goto (-48), 3) := by decide +kernel
theorem dX6_about_75 : decode cX6_about 75 = .ok (.iload_n 2, 1) := by decide +kernel
theorem dX6_about_76 : decode cX6_about 76 = .ok (.tableswitch 75 0 4 #[36, 43, 45, 48, 68], 36) := by decide +kernel
theorem dX6_about_112 : decode cX6_about 112 = .ok (.aload_n 0, 1) := by decide +kernel
theorem dX6_about_113 : decode cX6_about 113 = .ok (.getfield 26, 3) := by decide +kernel
theorem dX6_about_116 : decode cX6_about 116 = .ok (.iload_n 1, 1) := by decide +kernel
theorem dX6_about_117 : decode cX6_about 117 = .ok (.iaload, 1) := by decide +kernel
theorem dX6_about_118 : decode cX6_about 118 = .ok (.ireturn, 1) := by decide +kernel
theorem dX6_about_119 : decode cX6_about 119 = .ok (.iload_n 3, 1) := by decide +kernel
theorem dX6_about_120 : decode cX6_about 120 = .ok (.ireturn, 1) := by decide +kernel
theorem dX6_about_121 : decode cX6_about 121 = .ok (.iload 4, 2) := by decide +kernel
theorem dX6_about_123 : decode cX6_about 123 = .ok (.ireturn, 1) := by decide +kernel
theorem dX6_about_124 : decode cX6_about 124 = .ok (.aload_n 0, 1) := by decide +kernel
theorem dX6_about_125 : decode cX6_about 125 = .ok (.getfield 38, 3) := by decide +kernel
theorem dX6_about_128 : decode cX6_about 128 = .ok (.iload_n 1, 1) := by decide +kernel
theorem dX6_about_129 : decode cX6_about 129 = .ok (.iaload, 1) := by decide +kernel
theorem dX6_about_130 : decode cX6_about 130 = .ok (.ifCond .le 12, 3) := by decide +kernel
theorem dX6_about_133 : decode cX6_about 133 = .ok (.aload_n 0, 1) := by decide +kernel
theorem dX6_about_134 : decode cX6_about 134 = .ok (.getfield 32, 3) := by decide +kernel
theorem dX6_about_137 : decode cX6_about 137 = .ok (.iload_n 1, 1) := by decide +kernel
theorem dX6_about_138 : decode cX6_about 138 = .ok (.iaload, 1) := by decide +kernel
theorem dX6_about_139 : decode cX6_about 139 = .ok (.goto 4, 3) := by decide +kernel
theorem dX6_about_142 : decode cX6_about 142 = .ok (.iconst (-1), 1) := by decide +kernel
theorem dX6_about_143 : decode cX6_about 143 = .ok (.ireturn, 1) := by decide +kernel
theorem dX6_about_144 : decode cX6_about 144 = .ok (.aload_n 0, 1) := by decide +kernel
theorem dX6_about_145 : decode cX6_about 145 = .ok (.getfield 38, 3) := by decide +kernel
theorem dX6_about_148 : decode cX6_about 148 = .ok (.iload_n 1, 1) := by decide +kernel
theorem dX6_about_149 : decode cX6_about 149 = .ok (.iaload, 1) := by decide +kernel
theorem dX6_about_150 : decode cX6_about 150 = .ok (.ireturn, 1) := by decide +kernel
theorem dX6_about_151 : decode cX6_about 151 = .ok (.bipush (-2), 2) := by decide +kernel
theorem dX6_about_153 : decode cX6_about 153 = .ok (.ireturn, 1) := by decide +kernel
theorem dX6_held_0 : decode cX6_held 0 = .ok (.aload_n 0, 1) := by decide +kernel
theorem dX6_held_1 : decode cX6_held 1 = .ok (.iload_n 1, 1) := by decide +kernel
theorem dX6_held_2 : decode cX6_held 2 = .ok (.invokevirtual 123, 3) := by decide +kernel
theorem dX6_held_5 : decode cX6_held 5 = .ok (.ireturn, 1) := by decide +kernel
theorem dX6_used_0 : decode cX6_used 0 = .ok (.iload_n 1, 1) := by decide +kernel
theorem dX6_used_1 : decode cX6_used 1 = .ok (.iconst 0, 1) := by decide +kernel
theorem dX6_used_2 : decode cX6_used 2 = .ok (.bipush 39, 2) := by decide +kernel
theorem dX6_used_4 : decode cX6_used 4 = .ok (.invokestatic 78, 3) := by decide +kernel
theorem dX6_used_7 : decode cX6_used 7 = .ok (.ifCond .eq 16, 3) := by decide +kernel
theorem dX6_used_10 : decode cX6_used 10 = .ok (.iload_n 2, 1) := by decide +kernel
theorem dX6_used_11 : decode cX6_used 11 = .ok (.iconst (-1), 1) := by decide +kernel
theorem dX6_used_12 : decode cX6_used 12 = .ok (.if_icmp .eq 15, 3) := by decide +kernel
theorem dX6_used_15 : decode cX6_used 15 = .ok (.aload_n 0, 1) := by decide +kernel
theorem dX6_used_16 : decode cX6_used 16 = .ok (.iload_n 2, 1) := by decide +kernel
theorem dX6_used_17 : decode cX6_used 17 = .ok (.invokevirtual 82, 3) := by decide +kernel
theorem dX6_used_20 : decode cX6_used 20 = .ok (.ifCond .ne 7, 3) := by decide +kernel
theorem dX6_used_23 : decode cX6_used 23 = .ok (.iconst (-1), 1) := by decide +kernel
theorem dX6_used_24 : decode cX6_used 24 = .ok (.goto 9, 3) := by decide +kernel
theorem dX6_used_27 : decode cX6_used 27 = .ok (.aload_n 0, 1) := by decide +kernel
theorem dX6_used_28 : decode cX6_used 28 = .ok (.iload_n 1, 1) := by decide +kernel
theorem dX6_used_29 : decode cX6_used 29 = .ok (.iload_n 2, 1) := by decide +kernel
theorem dX6_used_30 : decode cX6_used 30 = .ok (.invokevirtual 101, 3) := by decide +kernel
theorem dX6_used_33 : decode cX6_used 33 = .ok (.ireturn, 1) := by decide +kernel
theorem dX6_markOn_0 : decode cX6_markOn 0 = .ok (.iconst (-1), 1) := by decide +kernel
theorem dX6_markOn_1 : decode cX6_markOn 1 = .ok (.istore 4, 2) := by decide +kernel
theorem dX6_markOn_3 : decode cX6_markOn 3 = .ok (.iconst 0, 1) := by decide +kernel
theorem dX6_markOn_4 : decode cX6_markOn 4 = .ok (.istore 5, 2) := by decide +kernel
theorem dX6_markOn_6 : decode cX6_markOn 6 = .ok (.iload 5, 2) := by decide +kernel
theorem dX6_markOn_8 : decode cX6_markOn 8 = .ok (.aload_n 0, 1) := by decide +kernel
theorem dX6_markOn_9 : decode cX6_markOn 9 = .ok (.getfield 92, 3) := by decide +kernel
theorem dX6_markOn_12 : decode cX6_markOn 12 = .ok (.if_icmp .ge 44, 3) := by decide +kernel
theorem dX6_markOn_15 : decode cX6_markOn 15 = .ok (.aload_n 0, 1) := by decide +kernel
theorem dX6_markOn_16 : decode cX6_markOn 16 = .ok (.getfield 41, 3) := by decide +kernel
theorem dX6_markOn_19 : decode cX6_markOn 19 = .ok (.iload 5, 2) := by decide +kernel
theorem dX6_markOn_21 : decode cX6_markOn 21 = .ok (.iaload, 1) := by decide +kernel
theorem dX6_markOn_22 : decode cX6_markOn 22 = .ok (.iload_n 1, 1) := by decide +kernel
theorem dX6_markOn_23 : decode cX6_markOn 23 = .ok (.if_icmp .ne 27, 3) := by decide +kernel
theorem dX6_markOn_26 : decode cX6_markOn 26 = .ok (.aload_n 0, 1) := by decide +kernel
theorem dX6_markOn_27 : decode cX6_markOn 27 = .ok (.getfield 44, 3) := by decide +kernel
theorem dX6_markOn_30 : decode cX6_markOn 30 = .ok (.iload 5, 2) := by decide +kernel
theorem dX6_markOn_32 : decode cX6_markOn 32 = .ok (.iaload, 1) := by decide +kernel
theorem dX6_markOn_33 : decode cX6_markOn 33 = .ok (.iload_n 2, 1) := by decide +kernel
theorem dX6_markOn_34 : decode cX6_markOn 34 = .ok (.if_icmp .ne 16, 3) := by decide +kernel
theorem dX6_markOn_37 : decode cX6_markOn 37 = .ok (.iload 4, 2) := by decide +kernel
theorem dX6_markOn_39 : decode cX6_markOn 39 = .ok (.ifCond .lt 7, 3) := by decide +kernel
theorem dX6_markOn_42 : decode cX6_markOn 42 = .ok (.iload_n 3, 1) := by decide +kernel
theorem dX6_markOn_43 : decode cX6_markOn 43 = .ok (.ifCond .ne 7, 3) := by decide +kernel
theorem dX6_markOn_46 : decode cX6_markOn 46 = .ok (.iload 5, 2) := by decide +kernel
theorem dX6_markOn_48 : decode cX6_markOn 48 = .ok (.istore 4, 2) := by decide +kernel
theorem dX6_markOn_50 : decode cX6_markOn 50 = .ok (.iinc 5 1, 3) := by decide +kernel
theorem dX6_markOn_53 : decode cX6_markOn 53 = .ok (.goto (-47), 3) := by decide +kernel
theorem dX6_markOn_56 : decode cX6_markOn 56 = .ok (.iload 4, 2) := by decide +kernel
theorem dX6_markOn_58 : decode cX6_markOn 58 = .ok (.ireturn, 1) := by decide +kernel
theorem dX6_lastBefore_0 : decode cX6_lastBefore 0 = .ok (.iload_n 2, 1) := by decide +kernel
theorem dX6_lastBefore_1 : decode cX6_lastBefore 1 = .ok (.iconst 1, 1) := by decide +kernel
theorem dX6_lastBefore_2 : decode cX6_lastBefore 2 = .ok (.isub, 1) := by decide +kernel
theorem dX6_lastBefore_3 : decode cX6_lastBefore 3 = .ok (.istore_n 3, 1) := by decide +kernel
theorem dX6_lastBefore_4 : decode cX6_lastBefore 4 = .ok (.iload_n 3, 1) := by decide +kernel
theorem dX6_lastBefore_5 : decode cX6_lastBefore 5 = .ok (.ifCond .lt 31, 3) := by decide +kernel
theorem dX6_lastBefore_8 : decode cX6_lastBefore 8 = .ok (.aload_n 0, 1) := by decide +kernel
theorem dX6_lastBefore_9 : decode cX6_lastBefore 9 = .ok (.iload_n 1, 1) := by decide +kernel
theorem dX6_lastBefore_10 : decode cX6_lastBefore 10 = .ok (.iload_n 3, 1) := by decide +kernel
theorem dX6_lastBefore_11 : decode cX6_lastBefore 11 = .ok (.iconst 0, 1) := by decide +kernel
theorem dX6_lastBefore_12 : decode cX6_lastBefore 12 = .ok (.invokevirtual 134, 3) := by decide +kernel
theorem dX6_lastBefore_15 : decode cX6_lastBefore 15 = .ok (.istore 4, 2) := by decide +kernel
theorem dX6_lastBefore_17 : decode cX6_lastBefore 17 = .ok (.iload 4, 2) := by decide +kernel
theorem dX6_lastBefore_19 : decode cX6_lastBefore 19 = .ok (.ifCond .lt 11, 3) := by decide +kernel
theorem dX6_lastBefore_22 : decode cX6_lastBefore 22 = .ok (.aload_n 0, 1) := by decide +kernel
theorem dX6_lastBefore_23 : decode cX6_lastBefore 23 = .ok (.getfield 47, 3) := by decide +kernel
theorem dX6_lastBefore_26 : decode cX6_lastBefore 26 = .ok (.iload 4, 2) := by decide +kernel
theorem dX6_lastBefore_28 : decode cX6_lastBefore 28 = .ok (.iaload, 1) := by decide +kernel
theorem dX6_lastBefore_29 : decode cX6_lastBefore 29 = .ok (.ireturn, 1) := by decide +kernel
theorem dX6_lastBefore_30 : decode cX6_lastBefore 30 = .ok (.iinc 3 (-1), 3) := by decide +kernel
theorem dX6_lastBefore_33 : decode cX6_lastBefore 33 = .ok (.goto (-29), 3) := by decide +kernel
theorem dX6_lastBefore_36 : decode cX6_lastBefore 36 = .ok (.iconst 0, 1) := by decide +kernel
theorem dX6_lastBefore_37 : decode cX6_lastBefore 37 = .ok (.ireturn, 1) := by decide +kernel
theorem dX6_seen_0 : decode cX6_seen 0 = .ok (.aload_n 0, 1) := by decide +kernel
theorem dX6_seen_1 : decode cX6_seen 1 = .ok (.iload_n 1, 1) := by decide +kernel
theorem dX6_seen_2 : decode cX6_seen 2 = .ok (.invokevirtual 82, 3) := by decide +kernel
theorem dX6_seen_5 : decode cX6_seen 5 = .ok (.ifCond .eq 22, 3) := by decide +kernel
theorem dX6_seen_8 : decode cX6_seen 8 = .ok (.iload_n 2, 1) := by decide +kernel
theorem dX6_seen_9 : decode cX6_seen 9 = .ok (.iconst 0, 1) := by decide +kernel
theorem dX6_seen_10 : decode cX6_seen 10 = .ok (.bipush 39, 2) := by decide +kernel
theorem dX6_seen_12 : decode cX6_seen 12 = .ok (.invokestatic 78, 3) := by decide +kernel
theorem dX6_seen_15 : decode cX6_seen 15 = .ok (.ifCond .eq 12, 3) := by decide +kernel
theorem dX6_seen_18 : decode cX6_seen 18 = .ok (.iload_n 3, 1) := by decide +kernel
theorem dX6_seen_19 : decode cX6_seen 19 = .ok (.iconst 0, 1) := by decide +kernel
theorem dX6_seen_20 : decode cX6_seen 20 = .ok (.iconst 2, 1) := by decide +kernel
theorem dX6_seen_21 : decode cX6_seen 21 = .ok (.invokestatic 78, 3) := by decide +kernel
theorem dX6_seen_24 : decode cX6_seen 24 = .ok (.ifCond .ne 5, 3) := by decide +kernel
theorem dX6_seen_27 : decode cX6_seen 27 = .ok (.iconst 0, 1) := by decide +kernel
theorem dX6_seen_28 : decode cX6_seen 28 = .ok (.ireturn, 1) := by decide +kernel
theorem dX6_seen_29 : decode cX6_seen 29 = .ok (.iload_n 3, 1) := by decide +kernel
theorem dX6_seen_30 : decode cX6_seen 30 = .ok (.ifCond .ne 7, 3) := by decide +kernel
theorem dX6_seen_33 : decode cX6_seen 33 = .ok (.iconst (-1), 1) := by decide +kernel
theorem dX6_seen_34 : decode cX6_seen 34 = .ok (.goto 19, 3) := by decide +kernel
theorem dX6_seen_37 : decode cX6_seen 37 = .ok (.aload_n 0, 1) := by decide +kernel
theorem dX6_seen_38 : decode cX6_seen 38 = .ok (.iload_n 1, 1) := by decide +kernel
theorem dX6_seen_39 : decode cX6_seen 39 = .ok (.iload_n 2, 1) := by decide +kernel
theorem dX6_seen_40 : decode cX6_seen 40 = .ok (.iload_n 3, 1) := by decide +kernel
theorem dX6_seen_41 : decode cX6_seen 41 = .ok (.iconst 1, 1) := by decide +kernel
theorem dX6_seen_42 : decode cX6_seen 42 = .ok (.if_icmp .ne 7, 3) := by decide +kernel
theorem dX6_seen_45 : decode cX6_seen 45 = .ok (.iconst 1, 1) := by decide +kernel
theorem dX6_seen_46 : decode cX6_seen 46 = .ok (.goto 4, 3) := by decide +kernel
theorem dX6_seen_49 : decode cX6_seen 49 = .ok (.iconst 0, 1) := by decide +kernel
theorem dX6_seen_50 : decode cX6_seen 50 = .ok (.invokevirtual 134, 3) := by decide +kernel
theorem dX6_seen_53 : decode cX6_seen 53 = .ok (.istore 4, 2) := by decide +kernel
theorem dX6_seen_55 : decode cX6_seen 55 = .ok (.iload 4, 2) := by decide +kernel
theorem dX6_seen_57 : decode cX6_seen 57 = .ok (.ifCond .ge 12, 3) := by decide +kernel
theorem dX6_seen_60 : decode cX6_seen 60 = .ok (.aload_n 0, 1) := by decide +kernel
theorem dX6_seen_61 : decode cX6_seen 61 = .ok (.iload_n 1, 1) := by decide +kernel
theorem dX6_seen_62 : decode cX6_seen 62 = .ok (.iload_n 2, 1) := by decide +kernel
theorem dX6_seen_63 : decode cX6_seen 63 = .ok (.invokevirtual 138, 3) := by decide +kernel
theorem dX6_seen_66 : decode cX6_seen 66 = .ok (.goto 10, 3) := by decide +kernel
theorem dX6_seen_69 : decode cX6_seen 69 = .ok (.aload_n 0, 1) := by decide +kernel
theorem dX6_seen_70 : decode cX6_seen 70 = .ok (.getfield 47, 3) := by decide +kernel
theorem dX6_seen_73 : decode cX6_seen 73 = .ok (.iload 4, 2) := by decide +kernel
theorem dX6_seen_75 : decode cX6_seen 75 = .ok (.iaload, 1) := by decide +kernel
theorem dX6_seen_76 : decode cX6_seen 76 = .ok (.ireturn, 1) := by decide +kernel
theorem dX6_count_0 : decode cX6_count 0 = .ok (.iconst 0, 1) := by decide +kernel
theorem dX6_count_1 : decode cX6_count 1 = .ok (.istore_n 2, 1) := by decide +kernel
theorem dX6_count_2 : decode cX6_count 2 = .ok (.iload_n 1, 1) := by decide +kernel
theorem dX6_count_3 : decode cX6_count 3 = .ok (.tableswitch 69 0 4 #[33, 38, 43, 48, 53], 33) := by decide +kernel
theorem dX6_count_36 : decode cX6_count 36 = .ok (.aload_n 0, 1) := by decide +kernel
theorem dX6_count_37 : decode cX6_count 37 = .ok (.getfield 75, 3) := by decide +kernel
theorem dX6_count_40 : decode cX6_count 40 = .ok (.ireturn, 1) := by decide +kernel
theorem dX6_count_41 : decode cX6_count 41 = .ok (.aload_n 0, 1) := by decide +kernel
theorem dX6_count_42 : decode cX6_count 42 = .ok (.getfield 89, 3) := by decide +kernel
theorem dX6_count_45 : decode cX6_count 45 = .ok (.ireturn, 1) := by decide +kernel
theorem dX6_count_46 : decode cX6_count 46 = .ok (.aload_n 0, 1) := by decide +kernel
theorem dX6_count_47 : decode cX6_count 47 = .ok (.getfield 92, 3) := by decide +kernel
theorem dX6_count_50 : decode cX6_count 50 = .ok (.ireturn, 1) := by decide +kernel
theorem dX6_count_51 : decode cX6_count 51 = .ok (.aload_n 0, 1) := by decide +kernel
theorem dX6_count_52 : decode cX6_count 52 = .ok (.getfield 86, 3) := by decide +kernel
theorem dX6_count_55 : decode cX6_count 55 = .ok (.ireturn, 1) := by decide +kernel
theorem dX6_count_56 : decode cX6_count 56 = .ok (.aload_n 0, 1) := by decide +kernel
theorem dX6_count_57 : decode cX6_count 57 = .ok (.iload_n 2, 1) := by decide +kernel
theorem dX6_count_58 : decode cX6_count 58 = .ok (.invokevirtual 123, 3) := by decide +kernel
theorem dX6_count_61 : decode cX6_count 61 = .ok (.ifCond .lt 9, 3) := by decide +kernel
theorem dX6_count_64 : decode cX6_count 64 = .ok (.iinc 2 1, 3) := by decide +kernel
theorem dX6_count_67 : decode cX6_count 67 = .ok (.goto (-11), 3) := by decide +kernel
theorem dX6_count_70 : decode cX6_count 70 = .ok (.iload_n 2, 1) := by decide +kernel
theorem dX6_count_71 : decode cX6_count 71 = .ok (.ireturn, 1) := by decide +kernel
theorem dX6_count_72 : decode cX6_count 72 = .ok (.bipush (-2), 2) := by decide +kernel
theorem dX6_count_74 : decode cX6_count 74 = .ok (.ireturn, 1) := by decide +kernel
end
section
theorem dX7_cell_0 : decode cX7_cell 0 = .ok (.iload_n 1, 1) := by decide +kernel
theorem dX7_cell_1 : decode cX7_cell 1 = .ok (.aload_n 0, 1) := by decide +kernel
theorem dX7_cell_2 : decode cX7_cell 2 = .ok (.arraylength, 1) := by decide +kernel
theorem dX7_cell_3 : decode cX7_cell 3 = .ok (.if_icmp .ge 9, 3) := by decide +kernel
theorem dX7_cell_6 : decode cX7_cell 6 = .ok (.aload_n 0, 1) := by decide +kernel
theorem dX7_cell_7 : decode cX7_cell 7 = .ok (.iload_n 1, 1) := by decide +kernel
theorem dX7_cell_8 : decode cX7_cell 8 = .ok (.iaload, 1) := by decide +kernel
theorem dX7_cell_9 : decode cX7_cell 9 = .ok (.goto 4, 3) := by decide +kernel
theorem dX7_cell_12 : decode cX7_cell 12 = .ok (.iconst 0, 1) := by decide +kernel
theorem dX7_cell_13 : decode cX7_cell 13 = .ok (.ireturn, 1) := by decide +kernel
theorem dL_law_0 : decode code 0 = .ok (.new 7, 3) := by decide +kernel
theorem dL_law_3 : decode code 3 = .ok (.dup, 1) := by decide +kernel
theorem dL_law_4 : decode code 4 = .ok (.aload_n 0, 1) := by decide +kernel
theorem dL_law_5 : decode code 5 = .ok (.iconst 0, 1) := by decide +kernel
theorem dL_law_6 : decode code 6 = .ok (.invokestatic 9, 3) := by decide +kernel
theorem dL_law_9 : decode code 9 = .ok (.invokespecial 15, 3) := by decide +kernel
theorem dL_law_12 : decode code 12 = .ok (.astore_n 1, 1) := by decide +kernel
theorem dL_law_13 : decode code 13 = .ok (.new 18, 3) := by decide +kernel
theorem dL_law_16 : decode code 16 = .ok (.dup, 1) := by decide +kernel
theorem dL_law_17 : decode code 17 = .ok (.aload_n 0, 1) := by decide +kernel
theorem dL_law_18 : decode code 18 = .ok (.iconst 0, 1) := by decide +kernel
theorem dL_law_19 : decode code 19 = .ok (.invokestatic 9, 3) := by decide +kernel
theorem dL_law_22 : decode code 22 = .ok (.invokespecial 20, 3) := by decide +kernel
theorem dL_law_25 : decode code 25 = .ok (.astore_n 2, 1) := by decide +kernel
theorem dL_law_26 : decode code 26 = .ok (.iconst 1, 1) := by decide +kernel
theorem dL_law_27 : decode code 27 = .ok (.istore_n 3, 1) := by decide +kernel
theorem dL_law_28 : decode code 28 = .ok (.iload_n 3, 1) := by decide +kernel
theorem dL_law_29 : decode code 29 = .ok (.aload_n 0, 1) := by decide +kernel
theorem dL_law_30 : decode code 30 = .ok (.arraylength, 1) := by decide +kernel
theorem dL_law_31 : decode code 31 = .ok (.iconst 4, 1) := by decide +kernel
theorem dL_law_32 : decode code 32 = .ok (.isub, 1) := by decide +kernel
theorem dL_law_33 : decode code 33 = .ok (.if_icmp .gt 469, 3) := by decide +kernel
theorem dL_law_36 : decode code 36 = .ok (.aload_n 0, 1) := by decide +kernel
theorem dL_law_37 : decode code 37 = .ok (.iload_n 3, 1) := by decide +kernel
theorem dL_law_38 : decode code 38 = .ok (.iaload, 1) := by decide +kernel
theorem dL_law_39 : decode code 39 = .ok (.bipush 15, 2) := by decide +kernel
theorem dL_law_41 : decode code 41 = .ok (.iand, 1) := by decide +kernel
theorem dL_law_42 : decode code 42 = .ok (.tableswitch 454 0 11 #[62, 121, 164, 207, 220, 233, 256, 299, 332, 355, 388, 431], 62) := by decide +kernel
theorem dL_law_104 : decode code 104 = .ok (.aload_n 1, 1) := by decide +kernel
theorem dL_law_105 : decode code 105 = .ok (.aload_n 0, 1) := by decide +kernel
theorem dL_law_106 : decode code 106 = .ok (.iload_n 3, 1) := by decide +kernel
theorem dL_law_107 : decode code 107 = .ok (.iconst 1, 1) := by decide +kernel
theorem dL_law_108 : decode code 108 = .ok (.iadd, 1) := by decide +kernel
theorem dL_law_109 : decode code 109 = .ok (.iaload, 1) := by decide +kernel
theorem dL_law_110 : decode code 110 = .ok (.aload_n 0, 1) := by decide +kernel
theorem dL_law_111 : decode code 111 = .ok (.iload_n 3, 1) := by decide +kernel
theorem dL_law_112 : decode code 112 = .ok (.iconst 2, 1) := by decide +kernel
theorem dL_law_113 : decode code 113 = .ok (.iadd, 1) := by decide +kernel
theorem dL_law_114 : decode code 114 = .ok (.iaload, 1) := by decide +kernel
theorem dL_law_115 : decode code 115 = .ok (.aload_n 0, 1) := by decide +kernel
theorem dL_law_116 : decode code 116 = .ok (.iload_n 3, 1) := by decide +kernel
theorem dL_law_117 : decode code 117 = .ok (.iconst 3, 1) := by decide +kernel
theorem dL_law_118 : decode code 118 = .ok (.iadd, 1) := by decide +kernel
theorem dL_law_119 : decode code 119 = .ok (.iaload, 1) := by decide +kernel
theorem dL_law_120 : decode code 120 = .ok (.ifCond .eq 7, 3) := by decide +kernel
theorem dL_law_123 : decode code 123 = .ok (.iconst 1, 1) := by decide +kernel
theorem dL_law_124 : decode code 124 = .ok (.goto 4, 3) := by decide +kernel
theorem dL_law_127 : decode code 127 = .ok (.iconst 0, 1) := by decide +kernel
theorem dL_law_128 : decode code 128 = .ok (.invokevirtual 21, 3) := by decide +kernel
theorem dL_law_131 : decode code 131 = .ok (.aload_n 2, 1) := by decide +kernel
theorem dL_law_132 : decode code 132 = .ok (.aload_n 0, 1) := by decide +kernel
theorem dL_law_133 : decode code 133 = .ok (.iload_n 3, 1) := by decide +kernel
theorem dL_law_134 : decode code 134 = .ok (.iconst 1, 1) := by decide +kernel
theorem dL_law_135 : decode code 135 = .ok (.iadd, 1) := by decide +kernel
theorem dL_law_136 : decode code 136 = .ok (.iaload, 1) := by decide +kernel
theorem dL_law_137 : decode code 137 = .ok (.aload_n 0, 1) := by decide +kernel
theorem dL_law_138 : decode code 138 = .ok (.iload_n 3, 1) := by decide +kernel
theorem dL_law_139 : decode code 139 = .ok (.iconst 2, 1) := by decide +kernel
theorem dL_law_140 : decode code 140 = .ok (.iadd, 1) := by decide +kernel
theorem dL_law_141 : decode code 141 = .ok (.iaload, 1) := by decide +kernel
theorem dL_law_142 : decode code 142 = .ok (.aload_n 0, 1) := by decide +kernel
theorem dL_law_143 : decode code 143 = .ok (.iload_n 3, 1) := by decide +kernel
theorem dL_law_144 : decode code 144 = .ok (.iconst 3, 1) := by decide +kernel
theorem dL_law_145 : decode code 145 = .ok (.iadd, 1) := by decide +kernel
theorem dL_law_146 : decode code 146 = .ok (.iaload, 1) := by decide +kernel
theorem dL_law_147 : decode code 147 = .ok (.ifCond .eq 7, 3) := by decide +kernel
theorem dL_law_150 : decode code 150 = .ok (.iconst 1, 1) := by decide +kernel
theorem dL_law_151 : decode code 151 = .ok (.goto 4, 3) := by decide +kernel
theorem dL_law_154 : decode code 154 = .ok (.iconst 0, 1) := by decide +kernel
theorem dL_law_155 : decode code 155 = .ok (.invokevirtual 25, 3) := by decide +kernel
theorem dL_law_158 : decode code 158 = .ok (.if_icmp .eq 338, 3) := by decide +kernel
theorem dL_law_161 : decode code 161 = .ok (.iconst 0, 1) := by decide +kernel
theorem dL_law_162 : decode code 162 = .ok (.ireturn, 1) := by decide +kernel
theorem dL_law_163 : decode code 163 = .ok (.aload_n 1, 1) := by decide +kernel
theorem dL_law_164 : decode code 164 = .ok (.aload_n 0, 1) := by decide +kernel
theorem dL_law_165 : decode code 165 = .ok (.iload_n 3, 1) := by decide +kernel
theorem dL_law_166 : decode code 166 = .ok (.iconst 1, 1) := by decide +kernel
theorem dL_law_167 : decode code 167 = .ok (.iadd, 1) := by decide +kernel
theorem dL_law_168 : decode code 168 = .ok (.iaload, 1) := by decide +kernel
theorem dL_law_169 : decode code 169 = .ok (.aload_n 0, 1) := by decide +kernel
theorem dL_law_170 : decode code 170 = .ok (.iload_n 3, 1) := by decide +kernel
theorem dL_law_171 : decode code 171 = .ok (.iconst 2, 1) := by decide +kernel
theorem dL_law_172 : decode code 172 = .ok (.iadd, 1) := by decide +kernel
theorem dL_law_173 : decode code 173 = .ok (.iaload, 1) := by decide +kernel
theorem dL_law_174 : decode code 174 = .ok (.aload_n 0, 1) := by decide +kernel
theorem dL_law_175 : decode code 175 = .ok (.iload_n 3, 1) := by decide +kernel
theorem dL_law_176 : decode code 176 = .ok (.iconst 3, 1) := by decide +kernel
theorem dL_law_177 : decode code 177 = .ok (.iadd, 1) := by decide +kernel
theorem dL_law_178 : decode code 178 = .ok (.iaload, 1) := by decide +kernel
theorem dL_law_179 : decode code 179 = .ok (.invokevirtual 26, 3) := by decide +kernel
theorem dL_law_182 : decode code 182 = .ok (.aload_n 2, 1) := by decide +kernel
theorem dL_law_183 : decode code 183 = .ok (.aload_n 0, 1) := by decide +kernel
theorem dL_law_184 : decode code 184 = .ok (.iload_n 3, 1) := by decide +kernel
theorem dL_law_185 : decode code 185 = .ok (.iconst 1, 1) := by decide +kernel
theorem dL_law_186 : decode code 186 = .ok (.iadd, 1) := by decide +kernel
theorem dL_law_187 : decode code 187 = .ok (.iaload, 1) := by decide +kernel
theorem dL_law_188 : decode code 188 = .ok (.aload_n 0, 1) := by decide +kernel
theorem dL_law_189 : decode code 189 = .ok (.iload_n 3, 1) := by decide +kernel
theorem dL_law_190 : decode code 190 = .ok (.iconst 2, 1) := by decide +kernel
theorem dL_law_191 : decode code 191 = .ok (.iadd, 1) := by decide +kernel
theorem dL_law_192 : decode code 192 = .ok (.iaload, 1) := by decide +kernel
theorem dL_law_193 : decode code 193 = .ok (.aload_n 0, 1) := by decide +kernel
theorem dL_law_194 : decode code 194 = .ok (.iload_n 3, 1) := by decide +kernel
theorem dL_law_195 : decode code 195 = .ok (.iconst 3, 1) := by decide +kernel
theorem dL_law_196 : decode code 196 = .ok (.iadd, 1) := by decide +kernel
theorem dL_law_197 : decode code 197 = .ok (.iaload, 1) := by decide +kernel
theorem dL_law_198 : decode code 198 = .ok (.invokevirtual 30, 3) := by decide +kernel
theorem dL_law_201 : decode code 201 = .ok (.if_icmp .eq 295, 3) := by decide +kernel
theorem dL_law_204 : decode code 204 = .ok (.iconst 0, 1) := by decide +kernel
theorem dL_law_205 : decode code 205 = .ok (.ireturn, 1) := by decide +kernel
theorem dL_law_206 : decode code 206 = .ok (.aload_n 1, 1) := by decide +kernel
theorem dL_law_207 : decode code 207 = .ok (.aload_n 0, 1) := by decide +kernel
theorem dL_law_208 : decode code 208 = .ok (.iload_n 3, 1) := by decide +kernel
theorem dL_law_209 : decode code 209 = .ok (.iconst 1, 1) := by decide +kernel
theorem dL_law_210 : decode code 210 = .ok (.iadd, 1) := by decide +kernel
theorem dL_law_211 : decode code 211 = .ok (.iaload, 1) := by decide +kernel
theorem dL_law_212 : decode code 212 = .ok (.aload_n 0, 1) := by decide +kernel
theorem dL_law_213 : decode code 213 = .ok (.iload_n 3, 1) := by decide +kernel
theorem dL_law_214 : decode code 214 = .ok (.iconst 2, 1) := by decide +kernel
theorem dL_law_215 : decode code 215 = .ok (.iadd, 1) := by decide +kernel
theorem dL_law_216 : decode code 216 = .ok (.iaload, 1) := by decide +kernel
theorem dL_law_217 : decode code 217 = .ok (.aload_n 0, 1) := by decide +kernel
theorem dL_law_218 : decode code 218 = .ok (.iload_n 3, 1) := by decide +kernel
theorem dL_law_219 : decode code 219 = .ok (.iconst 3, 1) := by decide +kernel
theorem dL_law_220 : decode code 220 = .ok (.iadd, 1) := by decide +kernel
theorem dL_law_221 : decode code 221 = .ok (.iaload, 1) := by decide +kernel
theorem dL_law_222 : decode code 222 = .ok (.invokevirtual 31, 3) := by decide +kernel
theorem dL_law_225 : decode code 225 = .ok (.aload_n 2, 1) := by decide +kernel
theorem dL_law_226 : decode code 226 = .ok (.aload_n 0, 1) := by decide +kernel
theorem dL_law_227 : decode code 227 = .ok (.iload_n 3, 1) := by decide +kernel
theorem dL_law_228 : decode code 228 = .ok (.iconst 1, 1) := by decide +kernel
theorem dL_law_229 : decode code 229 = .ok (.iadd, 1) := by decide +kernel
theorem dL_law_230 : decode code 230 = .ok (.iaload, 1) := by decide +kernel
theorem dL_law_231 : decode code 231 = .ok (.aload_n 0, 1) := by decide +kernel
theorem dL_law_232 : decode code 232 = .ok (.iload_n 3, 1) := by decide +kernel
theorem dL_law_233 : decode code 233 = .ok (.iconst 2, 1) := by decide +kernel
theorem dL_law_234 : decode code 234 = .ok (.iadd, 1) := by decide +kernel
theorem dL_law_235 : decode code 235 = .ok (.iaload, 1) := by decide +kernel
theorem dL_law_236 : decode code 236 = .ok (.aload_n 0, 1) := by decide +kernel
theorem dL_law_237 : decode code 237 = .ok (.iload_n 3, 1) := by decide +kernel
theorem dL_law_238 : decode code 238 = .ok (.iconst 3, 1) := by decide +kernel
theorem dL_law_239 : decode code 239 = .ok (.iadd, 1) := by decide +kernel
theorem dL_law_240 : decode code 240 = .ok (.iaload, 1) := by decide +kernel
theorem dL_law_241 : decode code 241 = .ok (.invokevirtual 34, 3) := by decide +kernel
theorem dL_law_244 : decode code 244 = .ok (.if_icmp .eq 252, 3) := by decide +kernel
theorem dL_law_247 : decode code 247 = .ok (.iconst 0, 1) := by decide +kernel
theorem dL_law_248 : decode code 248 = .ok (.ireturn, 1) := by decide +kernel
theorem dL_law_249 : decode code 249 = .ok (.aload_n 1, 1) := by decide +kernel
theorem dL_law_250 : decode code 250 = .ok (.invokevirtual 35, 3) := by decide +kernel
theorem dL_law_253 : decode code 253 = .ok (.aload_n 2, 1) := by decide +kernel
theorem dL_law_254 : decode code 254 = .ok (.invokevirtual 39, 3) := by decide +kernel
theorem dL_law_257 : decode code 257 = .ok (.if_icmp .eq 239, 3) := by decide +kernel
theorem dL_law_260 : decode code 260 = .ok (.iconst 0, 1) := by decide +kernel
theorem dL_law_261 : decode code 261 = .ok (.ireturn, 1) := by decide +kernel
theorem dL_law_262 : decode code 262 = .ok (.aload_n 1, 1) := by decide +kernel
theorem dL_law_263 : decode code 263 = .ok (.invokevirtual 40, 3) := by decide +kernel
theorem dL_law_266 : decode code 266 = .ok (.aload_n 2, 1) := by decide +kernel
theorem dL_law_267 : decode code 267 = .ok (.invokevirtual 43, 3) := by decide +kernel
theorem dL_law_270 : decode code 270 = .ok (.if_icmp .eq 226, 3) := by decide +kernel
theorem dL_law_273 : decode code 273 = .ok (.iconst 0, 1) := by decide +kernel
theorem dL_law_274 : decode code 274 = .ok (.ireturn, 1) := by decide +kernel
theorem dL_law_275 : decode code 275 = .ok (.aload_n 1, 1) := by decide +kernel
theorem dL_law_276 : decode code 276 = .ok (.aload_n 0, 1) := by decide +kernel
theorem dL_law_277 : decode code 277 = .ok (.iload_n 3, 1) := by decide +kernel
theorem dL_law_278 : decode code 278 = .ok (.iconst 1, 1) := by decide +kernel
theorem dL_law_279 : decode code 279 = .ok (.iadd, 1) := by decide +kernel
theorem dL_law_280 : decode code 280 = .ok (.iaload, 1) := by decide +kernel
theorem dL_law_281 : decode code 281 = .ok (.invokevirtual 44, 3) := by decide +kernel
theorem dL_law_284 : decode code 284 = .ok (.aload_n 2, 1) := by decide +kernel
theorem dL_law_285 : decode code 285 = .ok (.aload_n 0, 1) := by decide +kernel
theorem dL_law_286 : decode code 286 = .ok (.iload_n 3, 1) := by decide +kernel
theorem dL_law_287 : decode code 287 = .ok (.iconst 1, 1) := by decide +kernel
theorem dL_law_288 : decode code 288 = .ok (.iadd, 1) := by decide +kernel
theorem dL_law_289 : decode code 289 = .ok (.iaload, 1) := by decide +kernel
theorem dL_law_290 : decode code 290 = .ok (.invokevirtual 48, 3) := by decide +kernel
theorem dL_law_293 : decode code 293 = .ok (.if_icmp .eq 203, 3) := by decide +kernel
theorem dL_law_296 : decode code 296 = .ok (.iconst 0, 1) := by decide +kernel
theorem dL_law_297 : decode code 297 = .ok (.ireturn, 1) := by decide +kernel
theorem dL_law_298 : decode code 298 = .ok (.aload_n 1, 1) := by decide +kernel
theorem dL_law_299 : decode code 299 = .ok (.aload_n 0, 1) := by decide +kernel
theorem dL_law_300 : decode code 300 = .ok (.iload_n 3, 1) := by decide +kernel
theorem dL_law_301 : decode code 301 = .ok (.iconst 1, 1) := by decide +kernel
theorem dL_law_302 : decode code 302 = .ok (.iadd, 1) := by decide +kernel
theorem dL_law_303 : decode code 303 = .ok (.iaload, 1) := by decide +kernel
theorem dL_law_304 : decode code 304 = .ok (.aload_n 0, 1) := by decide +kernel
theorem dL_law_305 : decode code 305 = .ok (.iload_n 3, 1) := by decide +kernel
theorem dL_law_306 : decode code 306 = .ok (.iconst 2, 1) := by decide +kernel
theorem dL_law_307 : decode code 307 = .ok (.iadd, 1) := by decide +kernel
theorem dL_law_308 : decode code 308 = .ok (.iaload, 1) := by decide +kernel
theorem dL_law_309 : decode code 309 = .ok (.aload_n 0, 1) := by decide +kernel
theorem dL_law_310 : decode code 310 = .ok (.iload_n 3, 1) := by decide +kernel
theorem dL_law_311 : decode code 311 = .ok (.iconst 3, 1) := by decide +kernel
theorem dL_law_312 : decode code 312 = .ok (.iadd, 1) := by decide +kernel
theorem dL_law_313 : decode code 313 = .ok (.iaload, 1) := by decide +kernel
theorem dL_law_314 : decode code 314 = .ok (.invokevirtual 49, 3) := by decide +kernel
theorem dL_law_317 : decode code 317 = .ok (.aload_n 2, 1) := by decide +kernel
theorem dL_law_318 : decode code 318 = .ok (.aload_n 0, 1) := by decide +kernel
theorem dL_law_319 : decode code 319 = .ok (.iload_n 3, 1) := by decide +kernel
theorem dL_law_320 : decode code 320 = .ok (.iconst 1, 1) := by decide +kernel
theorem dL_law_321 : decode code 321 = .ok (.iadd, 1) := by decide +kernel
theorem dL_law_322 : decode code 322 = .ok (.iaload, 1) := by decide +kernel
theorem dL_law_323 : decode code 323 = .ok (.aload_n 0, 1) := by decide +kernel
theorem dL_law_324 : decode code 324 = .ok (.iload_n 3, 1) := by decide +kernel
theorem dL_law_325 : decode code 325 = .ok (.iconst 2, 1) := by decide +kernel
theorem dL_law_326 : decode code 326 = .ok (.iadd, 1) := by decide +kernel
theorem dL_law_327 : decode code 327 = .ok (.iaload, 1) := by decide +kernel
theorem dL_law_328 : decode code 328 = .ok (.aload_n 0, 1) := by decide +kernel
theorem dL_law_329 : decode code 329 = .ok (.iload_n 3, 1) := by decide +kernel
theorem dL_law_330 : decode code 330 = .ok (.iconst 3, 1) := by decide +kernel
theorem dL_law_331 : decode code 331 = .ok (.iadd, 1) := by decide +kernel
theorem dL_law_332 : decode code 332 = .ok (.iaload, 1) := by decide +kernel
theorem dL_law_333 : decode code 333 = .ok (.invokevirtual 52, 3) := by decide +kernel
theorem dL_law_336 : decode code 336 = .ok (.if_icmp .eq 160, 3) := by decide +kernel
theorem dL_law_339 : decode code 339 = .ok (.iconst 0, 1) := by decide +kernel
theorem dL_law_340 : decode code 340 = .ok (.ireturn, 1) := by decide +kernel
theorem dL_law_341 : decode code 341 = .ok (.aload_n 1, 1) := by decide +kernel
theorem dL_law_342 : decode code 342 = .ok (.aload_n 0, 1) := by decide +kernel
theorem dL_law_343 : decode code 343 = .ok (.iload_n 3, 1) := by decide +kernel
theorem dL_law_344 : decode code 344 = .ok (.iconst 1, 1) := by decide +kernel
theorem dL_law_345 : decode code 345 = .ok (.iadd, 1) := by decide +kernel
theorem dL_law_346 : decode code 346 = .ok (.iaload, 1) := by decide +kernel
theorem dL_law_347 : decode code 347 = .ok (.aload_n 0, 1) := by decide +kernel
theorem dL_law_348 : decode code 348 = .ok (.iload_n 3, 1) := by decide +kernel
theorem dL_law_349 : decode code 349 = .ok (.iconst 2, 1) := by decide +kernel
theorem dL_law_350 : decode code 350 = .ok (.iadd, 1) := by decide +kernel
theorem dL_law_351 : decode code 351 = .ok (.iaload, 1) := by decide +kernel
theorem dL_law_352 : decode code 352 = .ok (.invokevirtual 53, 3) := by decide +kernel
theorem dL_law_355 : decode code 355 = .ok (.aload_n 2, 1) := by decide +kernel
theorem dL_law_356 : decode code 356 = .ok (.aload_n 0, 1) := by decide +kernel
theorem dL_law_357 : decode code 357 = .ok (.iload_n 3, 1) := by decide +kernel
theorem dL_law_358 : decode code 358 = .ok (.iconst 1, 1) := by decide +kernel
theorem dL_law_359 : decode code 359 = .ok (.iadd, 1) := by decide +kernel
theorem dL_law_360 : decode code 360 = .ok (.iaload, 1) := by decide +kernel
theorem dL_law_361 : decode code 361 = .ok (.aload_n 0, 1) := by decide +kernel
theorem dL_law_362 : decode code 362 = .ok (.iload_n 3, 1) := by decide +kernel
theorem dL_law_363 : decode code 363 = .ok (.iconst 2, 1) := by decide +kernel
theorem dL_law_364 : decode code 364 = .ok (.iadd, 1) := by decide +kernel
theorem dL_law_365 : decode code 365 = .ok (.iaload, 1) := by decide +kernel
theorem dL_law_366 : decode code 366 = .ok (.invokevirtual 57, 3) := by decide +kernel
theorem dL_law_369 : decode code 369 = .ok (.if_icmp .eq 127, 3) := by decide +kernel
theorem dL_law_372 : decode code 372 = .ok (.iconst 0, 1) := by decide +kernel
theorem dL_law_373 : decode code 373 = .ok (.ireturn, 1) := by decide +kernel
theorem dL_law_374 : decode code 374 = .ok (.aload_n 1, 1) := by decide +kernel
theorem dL_law_375 : decode code 375 = .ok (.aload_n 0, 1) := by decide +kernel
theorem dL_law_376 : decode code 376 = .ok (.iload_n 3, 1) := by decide +kernel
theorem dL_law_377 : decode code 377 = .ok (.iconst 1, 1) := by decide +kernel
theorem dL_law_378 : decode code 378 = .ok (.iadd, 1) := by decide +kernel
theorem dL_law_379 : decode code 379 = .ok (.iaload, 1) := by decide +kernel
theorem dL_law_380 : decode code 380 = .ok (.invokevirtual 58, 3) := by decide +kernel
theorem dL_law_383 : decode code 383 = .ok (.aload_n 2, 1) := by decide +kernel
theorem dL_law_384 : decode code 384 = .ok (.aload_n 0, 1) := by decide +kernel
theorem dL_law_385 : decode code 385 = .ok (.iload_n 3, 1) := by decide +kernel
theorem dL_law_386 : decode code 386 = .ok (.iconst 1, 1) := by decide +kernel
theorem dL_law_387 : decode code 387 = .ok (.iadd, 1) := by decide +kernel
theorem dL_law_388 : decode code 388 = .ok (.iaload, 1) := by decide +kernel
theorem dL_law_389 : decode code 389 = .ok (.invokevirtual 61, 3) := by decide +kernel
theorem dL_law_392 : decode code 392 = .ok (.if_icmp .eq 104, 3) := by decide +kernel
theorem dL_law_395 : decode code 395 = .ok (.iconst 0, 1) := by decide +kernel
theorem dL_law_396 : decode code 396 = .ok (.ireturn, 1) := by decide +kernel
theorem dL_law_397 : decode code 397 = .ok (.aload_n 1, 1) := by decide +kernel
theorem dL_law_398 : decode code 398 = .ok (.aload_n 0, 1) := by decide +kernel
theorem dL_law_399 : decode code 399 = .ok (.iload_n 3, 1) := by decide +kernel
theorem dL_law_400 : decode code 400 = .ok (.iconst 1, 1) := by decide +kernel
theorem dL_law_401 : decode code 401 = .ok (.iadd, 1) := by decide +kernel
theorem dL_law_402 : decode code 402 = .ok (.iaload, 1) := by decide +kernel
theorem dL_law_403 : decode code 403 = .ok (.aload_n 0, 1) := by decide +kernel
theorem dL_law_404 : decode code 404 = .ok (.iload_n 3, 1) := by decide +kernel
theorem dL_law_405 : decode code 405 = .ok (.iconst 2, 1) := by decide +kernel
theorem dL_law_406 : decode code 406 = .ok (.iadd, 1) := by decide +kernel
theorem dL_law_407 : decode code 407 = .ok (.iaload, 1) := by decide +kernel
theorem dL_law_408 : decode code 408 = .ok (.invokevirtual 62, 3) := by decide +kernel
theorem dL_law_411 : decode code 411 = .ok (.aload_n 2, 1) := by decide +kernel
theorem dL_law_412 : decode code 412 = .ok (.aload_n 0, 1) := by decide +kernel
theorem dL_law_413 : decode code 413 = .ok (.iload_n 3, 1) := by decide +kernel
theorem dL_law_414 : decode code 414 = .ok (.iconst 1, 1) := by decide +kernel
theorem dL_law_415 : decode code 415 = .ok (.iadd, 1) := by decide +kernel
theorem dL_law_416 : decode code 416 = .ok (.iaload, 1) := by decide +kernel
theorem dL_law_417 : decode code 417 = .ok (.aload_n 0, 1) := by decide +kernel
theorem dL_law_418 : decode code 418 = .ok (.iload_n 3, 1) := by decide +kernel
theorem dL_law_419 : decode code 419 = .ok (.iconst 2, 1) := by decide +kernel
theorem dL_law_420 : decode code 420 = .ok (.iadd, 1) := by decide +kernel
theorem dL_law_421 : decode code 421 = .ok (.iaload, 1) := by decide +kernel
theorem dL_law_422 : decode code 422 = .ok (.invokevirtual 65, 3) := by decide +kernel
theorem dL_law_425 : decode code 425 = .ok (.if_icmp .eq 71, 3) := by decide +kernel
theorem dL_law_428 : decode code 428 = .ok (.iconst 0, 1) := by decide +kernel
theorem dL_law_429 : decode code 429 = .ok (.ireturn, 1) := by decide +kernel
theorem dL_law_430 : decode code 430 = .ok (.aload_n 1, 1) := by decide +kernel
theorem dL_law_431 : decode code 431 = .ok (.aload_n 0, 1) := by decide +kernel
theorem dL_law_432 : decode code 432 = .ok (.iload_n 3, 1) := by decide +kernel
theorem dL_law_433 : decode code 433 = .ok (.iconst 1, 1) := by decide +kernel
theorem dL_law_434 : decode code 434 = .ok (.iadd, 1) := by decide +kernel
theorem dL_law_435 : decode code 435 = .ok (.iaload, 1) := by decide +kernel
theorem dL_law_436 : decode code 436 = .ok (.aload_n 0, 1) := by decide +kernel
theorem dL_law_437 : decode code 437 = .ok (.iload_n 3, 1) := by decide +kernel
theorem dL_law_438 : decode code 438 = .ok (.iconst 2, 1) := by decide +kernel
theorem dL_law_439 : decode code 439 = .ok (.iadd, 1) := by decide +kernel
theorem dL_law_440 : decode code 440 = .ok (.iaload, 1) := by decide +kernel
theorem dL_law_441 : decode code 441 = .ok (.aload_n 0, 1) := by decide +kernel
theorem dL_law_442 : decode code 442 = .ok (.iload_n 3, 1) := by decide +kernel
theorem dL_law_443 : decode code 443 = .ok (.iconst 3, 1) := by decide +kernel
theorem dL_law_444 : decode code 444 = .ok (.iadd, 1) := by decide +kernel
theorem dL_law_445 : decode code 445 = .ok (.iaload, 1) := by decide +kernel
theorem dL_law_446 : decode code 446 = .ok (.invokevirtual 66, 3) := by decide +kernel
theorem dL_law_449 : decode code 449 = .ok (.aload_n 2, 1) := by decide +kernel
theorem dL_law_450 : decode code 450 = .ok (.aload_n 0, 1) := by decide +kernel
theorem dL_law_451 : decode code 451 = .ok (.iload_n 3, 1) := by decide +kernel
theorem dL_law_452 : decode code 452 = .ok (.iconst 1, 1) := by decide +kernel
theorem dL_law_453 : decode code 453 = .ok (.iadd, 1) := by decide +kernel
theorem dL_law_454 : decode code 454 = .ok (.iaload, 1) := by decide +kernel
theorem dL_law_455 : decode code 455 = .ok (.aload_n 0, 1) := by decide +kernel
theorem dL_law_456 : decode code 456 = .ok (.iload_n 3, 1) := by decide +kernel
theorem dL_law_457 : decode code 457 = .ok (.iconst 2, 1) := by decide +kernel
theorem dL_law_458 : decode code 458 = .ok (.iadd, 1) := by decide +kernel
theorem dL_law_459 : decode code 459 = .ok (.iaload, 1) := by decide +kernel
theorem dL_law_460 : decode code 460 = .ok (.aload_n 0, 1) := by decide +kernel
theorem dL_law_461 : decode code 461 = .ok (.iload_n 3, 1) := by decide +kernel
theorem dL_law_462 : decode code 462 = .ok (.iconst 3, 1) := by decide +kernel
theorem dL_law_463 : decode code 463 = .ok (.iadd, 1) := by decide +kernel
theorem dL_law_464 : decode code 464 = .ok (.iaload, 1) := by decide +kernel
theorem dL_law_465 : decode code 465 = .ok (.invokevirtual 69, 3) := by decide +kernel
theorem dL_law_468 : decode code 468 = .ok (.if_icmp .eq 28, 3) := by decide +kernel
theorem dL_law_471 : decode code 471 = .ok (.iconst 0, 1) := by decide +kernel
theorem dL_law_472 : decode code 472 = .ok (.ireturn, 1) := by decide +kernel
theorem dL_law_473 : decode code 473 = .ok (.aload_n 1, 1) := by decide +kernel
theorem dL_law_474 : decode code 474 = .ok (.aload_n 0, 1) := by decide +kernel
theorem dL_law_475 : decode code 475 = .ok (.iload_n 3, 1) := by decide +kernel
theorem dL_law_476 : decode code 476 = .ok (.iconst 1, 1) := by decide +kernel
theorem dL_law_477 : decode code 477 = .ok (.iadd, 1) := by decide +kernel
theorem dL_law_478 : decode code 478 = .ok (.iaload, 1) := by decide +kernel
theorem dL_law_479 : decode code 479 = .ok (.invokevirtual 70, 3) := by decide +kernel
theorem dL_law_482 : decode code 482 = .ok (.aload_n 2, 1) := by decide +kernel
theorem dL_law_483 : decode code 483 = .ok (.aload_n 0, 1) := by decide +kernel
theorem dL_law_484 : decode code 484 = .ok (.iload_n 3, 1) := by decide +kernel
theorem dL_law_485 : decode code 485 = .ok (.iconst 1, 1) := by decide +kernel
theorem dL_law_486 : decode code 486 = .ok (.iadd, 1) := by decide +kernel
theorem dL_law_487 : decode code 487 = .ok (.iaload, 1) := by decide +kernel
theorem dL_law_488 : decode code 488 = .ok (.invokevirtual 73, 3) := by decide +kernel
theorem dL_law_491 : decode code 491 = .ok (.if_icmp .eq 5, 3) := by decide +kernel
theorem dL_law_494 : decode code 494 = .ok (.iconst 0, 1) := by decide +kernel
theorem dL_law_495 : decode code 495 = .ok (.ireturn, 1) := by decide +kernel
theorem dL_law_496 : decode code 496 = .ok (.iinc 3 4, 3) := by decide +kernel
theorem dL_law_499 : decode code 499 = .ok (.goto (-471), 3) := by decide +kernel
theorem dL_law_502 : decode code 502 = .ok (.iconst 1, 1) := by decide +kernel
theorem dL_law_503 : decode code 503 = .ok (.ireturn, 1) := by decide +kernel
end
section
/-! ROWS OF THIS SYSTEM, by program: fields, calls -/
abbrev im_tys (cA : Nat → ClassId) : List (ClassId × FieldType) := [(cA 0, .int), (cA 1, .boolean), (cA 2, .object qR1), (cA 3, .object qR0), (cA 4, .object qR3), (cA 5, .object qR4)]
def im_K (D : va_G) (cA : Nat → ClassId) (U : State) : Prop := va_K D im_cl (im_tys cA) U ∧ va_AO qR1 U ∧ va_AO qR0 U ∧ va_AO qR3 U ∧ va_AO qR4 U ∧ va_Nw (.methodLinkNest qR5 29 yX2_init qR5) U ∧ va_Nw (.methodLinkNest qR3 50 yX5_isWithin qR5) U ∧ va_Nw (.methodLinkNest qR2 19 yX5_isWithin qR5) U
theorem im_Kok (D : va_G) (cA : Nat → ClassId) : nh_Kok (im_K D cA) :=
  ⟨fun u U h ⟨a1, a2, a3, a4, a5, a6, a7, a8⟩ => ⟨a1.moved h.alike, a2.moved h.alike, a3.moved h.alike, a4.moved h.alike, a5.moved h.alike, a6.warmM h, a7.warmM h, a8.warmM h⟩,
   fun u U h ⟨a1, a2, a3, a4, a5, a6, a7, a8⟩ => ⟨a1.moved (by rw [h]; exact Vm.Alike.refl _), a2.moved (by rw [h]; exact Vm.Alike.refl _), a3.moved (by rw [h]; exact Vm.Alike.refl _), a4.moved (by rw [h]; exact Vm.Alike.refl _), a5.moved (by rw [h]; exact Vm.Alike.refl _), a6.same rfl h, a7.same rfl h, a8.same rfl h⟩⟩
theorem gd_ws {y : MethodName} {b : ByteArray} {n : Nat} {r : Option FieldType} (hc : Cond.code y b n r ∈ im_ws) : GoodIn im_ws (Cond.code y b n r :: im_ws) := fun w h => by
  rcases List.mem_cons.mp h with rfl | h
  · exact ⟨hc, (im_good hc).2⟩
  · exact ⟨h, (im_good h).2⟩
theorem gd_V {own C : String} {idx : Nat} {y : MethodName} {b : ByteArray} {n : Nat} {r : Option FieldType} (hc : Cond.code y b n r ∈ im_ws) (h1 : Cond.methodLink own idx y ∈ im_ws) (h2 : Cond.instanceMethod y ∈ im_ws) (h3 : Cond.selects C y y ∈ im_ws) (h4 : Cond.initialized C ∈ im_ws) : GoodIn im_ws (wsV own idx C y (Cond.code y b n r :: im_ws)) := fun w h => by
  unfold wsV at h
  rcases List.mem_append.mp h with h | h
  · simp only [List.mem_cons, List.not_mem_nil, or_false] at h
    rcases h with rfl | rfl | rfl | rfl
    · exact ⟨h1, (im_good h1).2⟩
    · exact ⟨h2, (im_good h2).2⟩
    · exact ⟨h3, (im_good h3).2⟩
    · exact ⟨h4, (im_good h4).2⟩
  · exact gd_ws hc w h
theorem gd_S {own : String} {idx : Nat} {y : MethodName} {b : ByteArray} {n : Nat} {r : Option FieldType} (hc : Cond.code y b n r ∈ im_ws) (h1 : Cond.methodLink own idx y ∈ im_ws) (h2 : Cond.static y ∈ im_ws) (h3 : Cond.initialized own ∈ im_ws) : GoodIn im_ws (wsS own idx y (Cond.code y b n r :: im_ws)) := fun w h => by
  unfold wsS at h
  rcases List.mem_append.mp h with h | h
  · simp only [List.mem_cons, List.not_mem_nil, or_false] at h
    rcases h with rfl | rfl | rfl
    · exact ⟨h1, (im_good h1).2⟩
    · exact ⟨h2, (im_good h2).2⟩
    · exact ⟨h3, (im_good h3).2⟩
  · exact gd_ws hc w h
/-- an answer, and the heap as it was -/
def im_eq (v0 : Option Value) (S : nh_N → Option nh_C) (g : nh_N → Nat) (I : nh_N → Nat → Int32) (R : nh_N → Nat → Option nh_N) : nh_post := fun v S' g' I' R' => v = v0 ∧ S' = S ∧ g' = g ∧ I' = I ∧ R' = R
abbrev im_M (l : Launch) (D : va_G) (cA : Nat → ClassId) (y : MethodName) (ws : List Cond) (fr lo mc ms : Nat) (av : List Value) (S : nh_N → Option nh_C) (g : nh_N → Nat) (I : nh_N → Nat → Int32) (R : nh_N → Nat → Option nh_N) (post : nh_post) : Prop := nh_M l y ws fr lo mc ms D im_cl im_sk cA (im_K D cA) av S g I R post
section IMR
variable {p : Program} {l : Launch} {e : Env} {Rm : Room} {s : State} {m : MethodId} {args : Array Value} {below : List Frame} {meth : Method} {c : Code} {H : Heap} {locs : List Loc} {cells slots : Nat} {Q : State → Prop}
variable {cc : ByteArray} {pc : Nat} {ls : Array Slot} {rest st0 : List Value} {D : va_G} {cA : Nat → ClassId} {A A0 : Nat → Prop} {a : Nat} {S : nh_N → Option nh_C} {g : nh_N → Nat} {I : nh_N → Nat → Int32} {R : nh_N → Nat → Option nh_N} {H0 : Heap} {n : nh_N} {own : String} {index : Nat}
theorem fg0 (hx : p.tables.exec = Jvm.exec) (hb : c.code = cc) (ht : ∀ w ∈ im_ws, w.before args s = true) (hown : s.vm.findClass own = some m.cls) (hK : im_K D cA s) (hw : nh_S D im_cl im_sk cA A H0 S g I R H locs) (hn : S n = some (0, 0)) (ha : g n = a) (k : Nat) (hf : Cond.fieldLink own index (qT0 k).1 (qT0 k).2.1 (qT0 k).2.2.1 ∈ im_ws) (hk : k < 8) {v : Value} (hv : nh_v g (I n) (R n) (im_sk 0 k) k = v) (hdg : decode cc pc = .ok (.getfield index, 3)) (kk : W p l e Rm s m args below meth c H locs cells slots Q (F0 m (pc + 3) ls (v :: rest))) : W p l e Rm s m args below meth c H locs cells slots Q (F0 m pc ls (.ref a :: rest)) := nm_get hx hb ht qL0 hown hK.1 hw hn ha rfl k hk (ht _ hf) (fun _ h => h) hv hdg kk
theorem fp0 (hx : p.tables.exec = Jvm.exec) (hb : c.code = cc) (ht : ∀ w ∈ im_ws, w.before args s = true) (hown : s.vm.findClass own = some m.cls) (hK : im_K D cA s) (hw : nh_S D im_cl im_sk cA A H0 S g I R H locs) (hn : S n = some (0, 0)) (ha : g n = a) (k : Nat) (hf : Cond.fieldLink own index (qT0 k).1 (qT0 k).2.1 (qT0 k).2.2.1 ∈ im_ws) (hk : k < 8) (hfin : (qT0 k).2.2.2 = false) {x : Int32} (hnr : narrow (qY0 k) (.int x) = .int x) (hfit : fits (qY0 k) (.int x) = true) (hsk : im_sk 0 k = false) (hdg : decode cc pc = .ok (.putfield index, 3)) (kk : ∀ (H1 : Heap) (locs1 : List Loc) (I1 : nh_N → Nat → Int32), I1 = iu I n k x → nh_S D im_cl im_sk cA A H0 S g I1 R H1 locs1 → W p l e Rm s m args below meth c H1 locs1 cells slots Q (F0 m (pc + 3) ls rest)) : W p l e Rm s m args below meth c H locs cells slots Q (F0 m pc ls (.int x :: .ref a :: rest)) := nm_put hx hb ht qL0 qY0 qO0 qN0 hown hK.1 hw hn ha rfl k hk (ht _ hf) (fun _ h => h) hfin (qO0 k hk) hnr hfit hsk hdg (fun H1 locs1 h => kk H1 locs1 _ rfl h)
theorem fP0 (hx : p.tables.exec = Jvm.exec) (hb : c.code = cc) (ht : ∀ w ∈ im_ws, w.before args s = true) (hown : s.vm.findClass own = some m.cls) (hK : im_K D cA s) (hw : nh_S D im_cl im_sk cA A H0 S g I R H locs) (hn : S n = some (0, 0)) (ha : g n = a) (k : Nat) (hf : Cond.fieldLink own index (qT0 k).1 (qT0 k).2.1 (qT0 k).2.2.1 ∈ im_ws) (hk : k < 8) (hfin : (qT0 k).2.2.2 = true) (hin : meth.name = "<init>") (hdc : (qT0 k).1 = own) {x : Int32} (hnr : narrow (qY0 k) (.int x) = .int x) (hfit : fits (qY0 k) (.int x) = true) (hsk : im_sk 0 k = false) (hdg : decode cc pc = .ok (.putfield index, 3)) (kk : ∀ (H1 : Heap) (locs1 : List Loc) (I1 : nh_N → Nat → Int32), I1 = iu I n k x → nh_S D im_cl im_sk cA A H0 S g I1 R H1 locs1 → W p l e Rm s m args below meth c H1 locs1 cells slots Q (F0 m (pc + 3) ls rest)) : W p l e Rm s m args below meth c H locs cells slots Q (F0 m pc ls (.int x :: .ref a :: rest)) := nm_putF hx hb ht qL0 qY0 qO0 qN0 hown hK.1 hw hn ha rfl k hk (ht _ hf) (fun _ h => h) hfin hin hdc (qO0 k hk) hnr hfit hsk hdg (fun H1 locs1 h => kk H1 locs1 _ rfl h)
theorem fQ0 (hx : p.tables.exec = Jvm.exec) (hb : c.code = cc) (ht : ∀ w ∈ im_ws, w.before args s = true) (hown : s.vm.findClass own = some m.cls) (hK : im_K D cA s) (hw : nh_S D im_cl im_sk cA A H0 S g I R H locs) (hn : S n = some (0, 0)) (ha : g n = a) (k : Nat) (hf : Cond.fieldLink own index (qT0 k).1 (qT0 k).2.1 (qT0 k).2.2.1 ∈ im_ws) (hk : k < 8) (hfin : (qT0 k).2.2.2 = true) (hin : meth.name = "<init>") (hdc : (qT0 k).1 = own) {v : Value} (q : Option nh_N) (hq : ∀ m, q = some m → ∃ c', S m = some c') (hv : va_rf (q.map g) = v) (hnr : narrow (qY0 k) v = v) (hfit : fits (qY0 k) v = true) (hsk : im_sk 0 k = true) (hdg : decode cc pc = .ok (.putfield index, 3)) (kk : ∀ (H1 : Heap) (locs1 : List Loc) (R1 : nh_N → Nat → Option nh_N), R1 = ru R n k q → nh_S D im_cl im_sk cA A H0 S g I R1 H1 locs1 → W p l e Rm s m args below meth c H1 locs1 cells slots Q (F0 m (pc + 3) ls rest)) : W p l e Rm s m args below meth c H locs cells slots Q (F0 m pc ls (v :: .ref a :: rest)) := nm_putFR hx hb ht qL0 qY0 qO0 qN0 hown hK.1 hw hn ha rfl k hk (ht _ hf) (fun _ h => h) hfin hin hdc q hq hv (qO0 k hk) hnr hfit hsk hdg (fun H1 locs1 h => kk H1 locs1 _ rfl h)
theorem fn0 (n : nh_N) (hx : p.tables.exec = Jvm.exec) (hb : c.code = cc) (ht : ∀ w ∈ im_ws, w.before args s = true) (hown : s.vm.findClass own = some m.cls) (hK : im_K D cA s) (hw : nh_S D im_cl im_sk cA A H0 S g I R H locs) (hn : S n = none) (hcl : Cond.classLink own index qR0 ∈ im_ws) (hcells : cells + 1 ≤ Rm.cells) (hslots : slots + 8 ≤ Rm.slots) (hdg : decode cc pc = .ok (.new index, 3)) (kk : ∀ (q : Nat) (H1 : Heap) (S1 : nh_N → Option nh_C) (g1 : nh_N → Nat) (I1 : nh_N → Nat → Int32) (R1 : nh_N → Nat → Option nh_N), S1 = nu S n (some (0, 0)) → g1 = nu g n q → I1 = nu I n (fun _ => 0) → R1 = nu R n (fun _ => none) → nh_S D im_cl im_sk cA A H0 S1 g1 I1 R1 H1 locs → W p l e Rm s m args below meth c H1 locs (cells + 1) (slots + 8) Q (F0 m (pc + 3) ls (.ref q :: rest))) : W p l e Rm s m args below meth c H locs cells slots Q (F0 m pc ls rest) := nm_new n hx hb ht qL0 qY0 qO0 hown (ht _ hcl) (ht _ wn0) (ht _ wz0) hK.1 hw hn rfl qD0 hcells hslots hdg (fun q H1 h => kk q H1 _ _ _ _ rfl rfl rfl rfl h)
theorem fg1 (hx : p.tables.exec = Jvm.exec) (hb : c.code = cc) (ht : ∀ w ∈ im_ws, w.before args s = true) (hown : s.vm.findClass own = some m.cls) (hK : im_K D cA s) (hw : nh_S D im_cl im_sk cA A H0 S g I R H locs) (hn : S n = some (0, 1)) (ha : g n = a) (k : Nat) (hf : Cond.fieldLink own index (qT1 k).1 (qT1 k).2.1 (qT1 k).2.2.1 ∈ im_ws) (hk : k < 9) {v : Value} (hv : nh_v g (I n) (R n) (im_sk 1 k) k = v) (hdg : decode cc pc = .ok (.getfield index, 3)) (kk : W p l e Rm s m args below meth c H locs cells slots Q (F0 m (pc + 3) ls (v :: rest))) : W p l e Rm s m args below meth c H locs cells slots Q (F0 m pc ls (.ref a :: rest)) := nm_get hx hb ht qL1 hown hK.1 hw hn ha rfl k hk (ht _ hf) (fun _ h => h) hv hdg kk
theorem fp1 (hx : p.tables.exec = Jvm.exec) (hb : c.code = cc) (ht : ∀ w ∈ im_ws, w.before args s = true) (hown : s.vm.findClass own = some m.cls) (hK : im_K D cA s) (hw : nh_S D im_cl im_sk cA A H0 S g I R H locs) (hn : S n = some (0, 1)) (ha : g n = a) (k : Nat) (hf : Cond.fieldLink own index (qT1 k).1 (qT1 k).2.1 (qT1 k).2.2.1 ∈ im_ws) (hk : k < 9) (hfin : (qT1 k).2.2.2 = false) {x : Int32} (hnr : narrow (qY1 k) (.int x) = .int x) (hfit : fits (qY1 k) (.int x) = true) (hsk : im_sk 1 k = false) (hdg : decode cc pc = .ok (.putfield index, 3)) (kk : ∀ (H1 : Heap) (locs1 : List Loc) (I1 : nh_N → Nat → Int32), I1 = iu I n k x → nh_S D im_cl im_sk cA A H0 S g I1 R H1 locs1 → W p l e Rm s m args below meth c H1 locs1 cells slots Q (F0 m (pc + 3) ls rest)) : W p l e Rm s m args below meth c H locs cells slots Q (F0 m pc ls (.int x :: .ref a :: rest)) := nm_put hx hb ht qL1 qY1 qO1 qN1 hown hK.1 hw hn ha rfl k hk (ht _ hf) (fun _ h => h) hfin (qO1 k hk) hnr hfit hsk hdg (fun H1 locs1 h => kk H1 locs1 _ rfl h)
theorem fP1 (hx : p.tables.exec = Jvm.exec) (hb : c.code = cc) (ht : ∀ w ∈ im_ws, w.before args s = true) (hown : s.vm.findClass own = some m.cls) (hK : im_K D cA s) (hw : nh_S D im_cl im_sk cA A H0 S g I R H locs) (hn : S n = some (0, 1)) (ha : g n = a) (k : Nat) (hf : Cond.fieldLink own index (qT1 k).1 (qT1 k).2.1 (qT1 k).2.2.1 ∈ im_ws) (hk : k < 9) (hfin : (qT1 k).2.2.2 = true) (hin : meth.name = "<init>") (hdc : (qT1 k).1 = own) {x : Int32} (hnr : narrow (qY1 k) (.int x) = .int x) (hfit : fits (qY1 k) (.int x) = true) (hsk : im_sk 1 k = false) (hdg : decode cc pc = .ok (.putfield index, 3)) (kk : ∀ (H1 : Heap) (locs1 : List Loc) (I1 : nh_N → Nat → Int32), I1 = iu I n k x → nh_S D im_cl im_sk cA A H0 S g I1 R H1 locs1 → W p l e Rm s m args below meth c H1 locs1 cells slots Q (F0 m (pc + 3) ls rest)) : W p l e Rm s m args below meth c H locs cells slots Q (F0 m pc ls (.int x :: .ref a :: rest)) := nm_putF hx hb ht qL1 qY1 qO1 qN1 hown hK.1 hw hn ha rfl k hk (ht _ hf) (fun _ h => h) hfin hin hdc (qO1 k hk) hnr hfit hsk hdg (fun H1 locs1 h => kk H1 locs1 _ rfl h)
theorem fQ1 (hx : p.tables.exec = Jvm.exec) (hb : c.code = cc) (ht : ∀ w ∈ im_ws, w.before args s = true) (hown : s.vm.findClass own = some m.cls) (hK : im_K D cA s) (hw : nh_S D im_cl im_sk cA A H0 S g I R H locs) (hn : S n = some (0, 1)) (ha : g n = a) (k : Nat) (hf : Cond.fieldLink own index (qT1 k).1 (qT1 k).2.1 (qT1 k).2.2.1 ∈ im_ws) (hk : k < 9) (hfin : (qT1 k).2.2.2 = true) (hin : meth.name = "<init>") (hdc : (qT1 k).1 = own) {v : Value} (q : Option nh_N) (hq : ∀ m, q = some m → ∃ c', S m = some c') (hv : va_rf (q.map g) = v) (hnr : narrow (qY1 k) v = v) (hfit : fits (qY1 k) v = true) (hsk : im_sk 1 k = true) (hdg : decode cc pc = .ok (.putfield index, 3)) (kk : ∀ (H1 : Heap) (locs1 : List Loc) (R1 : nh_N → Nat → Option nh_N), R1 = ru R n k q → nh_S D im_cl im_sk cA A H0 S g I R1 H1 locs1 → W p l e Rm s m args below meth c H1 locs1 cells slots Q (F0 m (pc + 3) ls rest)) : W p l e Rm s m args below meth c H locs cells slots Q (F0 m pc ls (v :: .ref a :: rest)) := nm_putFR hx hb ht qL1 qY1 qO1 qN1 hown hK.1 hw hn ha rfl k hk (ht _ hf) (fun _ h => h) hfin hin hdc q hq hv (qO1 k hk) hnr hfit hsk hdg (fun H1 locs1 h => kk H1 locs1 _ rfl h)
theorem fn1 (n : nh_N) (hx : p.tables.exec = Jvm.exec) (hb : c.code = cc) (ht : ∀ w ∈ im_ws, w.before args s = true) (hown : s.vm.findClass own = some m.cls) (hK : im_K D cA s) (hw : nh_S D im_cl im_sk cA A H0 S g I R H locs) (hn : S n = none) (hcl : Cond.classLink own index qR1 ∈ im_ws) (hcells : cells + 1 ≤ Rm.cells) (hslots : slots + 9 ≤ Rm.slots) (hdg : decode cc pc = .ok (.new index, 3)) (kk : ∀ (q : Nat) (H1 : Heap) (S1 : nh_N → Option nh_C) (g1 : nh_N → Nat) (I1 : nh_N → Nat → Int32) (R1 : nh_N → Nat → Option nh_N), S1 = nu S n (some (0, 1)) → g1 = nu g n q → I1 = nu I n (fun _ => 0) → R1 = nu R n (fun _ => none) → nh_S D im_cl im_sk cA A H0 S1 g1 I1 R1 H1 locs → W p l e Rm s m args below meth c H1 locs (cells + 1) (slots + 9) Q (F0 m (pc + 3) ls (.ref q :: rest))) : W p l e Rm s m args below meth c H locs cells slots Q (F0 m pc ls rest) := nm_new n hx hb ht qL1 qY1 qO1 hown (ht _ hcl) (ht _ wn1) (ht _ wz1) hK.1 hw hn rfl qD1 hcells hslots hdg (fun q H1 h => kk q H1 _ _ _ _ rfl rfl rfl rfl h)
theorem fg2 (hx : p.tables.exec = Jvm.exec) (hb : c.code = cc) (ht : ∀ w ∈ im_ws, w.before args s = true) (hown : s.vm.findClass own = some m.cls) (hK : im_K D cA s) (hw : nh_S D im_cl im_sk cA A H0 S g I R H locs) (hn : S n = some (0, 2)) (ha : g n = a) (k : Nat) (hf : Cond.fieldLink own index (qT2 k).1 (qT2 k).2.1 (qT2 k).2.2.1 ∈ im_ws) (hk : k < 2) {v : Value} (hv : nh_v g (I n) (R n) (im_sk 2 k) k = v) (hdg : decode cc pc = .ok (.getfield index, 3)) (kk : W p l e Rm s m args below meth c H locs cells slots Q (F0 m (pc + 3) ls (v :: rest))) : W p l e Rm s m args below meth c H locs cells slots Q (F0 m pc ls (.ref a :: rest)) := nm_get hx hb ht qL2 hown hK.1 hw hn ha rfl k hk (ht _ hf) (fun _ h => h) hv hdg kk
theorem fp2 (hx : p.tables.exec = Jvm.exec) (hb : c.code = cc) (ht : ∀ w ∈ im_ws, w.before args s = true) (hown : s.vm.findClass own = some m.cls) (hK : im_K D cA s) (hw : nh_S D im_cl im_sk cA A H0 S g I R H locs) (hn : S n = some (0, 2)) (ha : g n = a) (k : Nat) (hf : Cond.fieldLink own index (qT2 k).1 (qT2 k).2.1 (qT2 k).2.2.1 ∈ im_ws) (hk : k < 2) (hfin : (qT2 k).2.2.2 = false) {x : Int32} (hnr : narrow (qY2 k) (.int x) = .int x) (hfit : fits (qY2 k) (.int x) = true) (hsk : im_sk 2 k = false) (hdg : decode cc pc = .ok (.putfield index, 3)) (kk : ∀ (H1 : Heap) (locs1 : List Loc) (I1 : nh_N → Nat → Int32), I1 = iu I n k x → nh_S D im_cl im_sk cA A H0 S g I1 R H1 locs1 → W p l e Rm s m args below meth c H1 locs1 cells slots Q (F0 m (pc + 3) ls rest)) : W p l e Rm s m args below meth c H locs cells slots Q (F0 m pc ls (.int x :: .ref a :: rest)) := nm_put hx hb ht qL2 qY2 qO2 qN2 hown hK.1 hw hn ha rfl k hk (ht _ hf) (fun _ h => h) hfin (qO2 k hk) hnr hfit hsk hdg (fun H1 locs1 h => kk H1 locs1 _ rfl h)
theorem fQ2 (hx : p.tables.exec = Jvm.exec) (hb : c.code = cc) (ht : ∀ w ∈ im_ws, w.before args s = true) (hown : s.vm.findClass own = some m.cls) (hK : im_K D cA s) (hw : nh_S D im_cl im_sk cA A H0 S g I R H locs) (hn : S n = some (0, 2)) (ha : g n = a) (k : Nat) (hf : Cond.fieldLink own index (qT2 k).1 (qT2 k).2.1 (qT2 k).2.2.1 ∈ im_ws) (hk : k < 2) (hfin : (qT2 k).2.2.2 = true) (hin : meth.name = "<init>") (hdc : (qT2 k).1 = own) {v : Value} (q : Option nh_N) (hq : ∀ m, q = some m → ∃ c', S m = some c') (hv : va_rf (q.map g) = v) (hnr : narrow (qY2 k) v = v) (hfit : fits (qY2 k) v = true) (hsk : im_sk 2 k = true) (hdg : decode cc pc = .ok (.putfield index, 3)) (kk : ∀ (H1 : Heap) (locs1 : List Loc) (R1 : nh_N → Nat → Option nh_N), R1 = ru R n k q → nh_S D im_cl im_sk cA A H0 S g I R1 H1 locs1 → W p l e Rm s m args below meth c H1 locs1 cells slots Q (F0 m (pc + 3) ls rest)) : W p l e Rm s m args below meth c H locs cells slots Q (F0 m pc ls (v :: .ref a :: rest)) := nm_putFR hx hb ht qL2 qY2 qO2 qN2 hown hK.1 hw hn ha rfl k hk (ht _ hf) (fun _ h => h) hfin hin hdc q hq hv (qO2 k hk) hnr hfit hsk hdg (fun H1 locs1 h => kk H1 locs1 _ rfl h)
theorem fn2 (n : nh_N) (hx : p.tables.exec = Jvm.exec) (hb : c.code = cc) (ht : ∀ w ∈ im_ws, w.before args s = true) (hown : s.vm.findClass own = some m.cls) (hK : im_K D cA s) (hw : nh_S D im_cl im_sk cA A H0 S g I R H locs) (hn : S n = none) (hcl : Cond.classLink own index qR2 ∈ im_ws) (hcells : cells + 1 ≤ Rm.cells) (hslots : slots + 2 ≤ Rm.slots) (hdg : decode cc pc = .ok (.new index, 3)) (kk : ∀ (q : Nat) (H1 : Heap) (S1 : nh_N → Option nh_C) (g1 : nh_N → Nat) (I1 : nh_N → Nat → Int32) (R1 : nh_N → Nat → Option nh_N), S1 = nu S n (some (0, 2)) → g1 = nu g n q → I1 = nu I n (fun _ => 0) → R1 = nu R n (fun _ => none) → nh_S D im_cl im_sk cA A H0 S1 g1 I1 R1 H1 locs → W p l e Rm s m args below meth c H1 locs (cells + 1) (slots + 2) Q (F0 m (pc + 3) ls (.ref q :: rest))) : W p l e Rm s m args below meth c H locs cells slots Q (F0 m pc ls rest) := nm_new n hx hb ht qL2 qY2 qO2 hown (ht _ hcl) (ht _ wn2) (ht _ wz2) hK.1 hw hn rfl qD2 hcells hslots hdg (fun q H1 h => kk q H1 _ _ _ _ rfl rfl rfl rfl h)
theorem fg3 (hx : p.tables.exec = Jvm.exec) (hb : c.code = cc) (ht : ∀ w ∈ im_ws, w.before args s = true) (hown : s.vm.findClass own = some m.cls) (hK : im_K D cA s) (hw : nh_S D im_cl im_sk cA A H0 S g I R H locs) (hn : S n = some (0, 3)) (ha : g n = a) (k : Nat) (hf : Cond.fieldLink own index (qT3 k).1 (qT3 k).2.1 (qT3 k).2.2.1 ∈ im_ws) (hk : k < 4) {v : Value} (hv : nh_v g (I n) (R n) (im_sk 3 k) k = v) (hdg : decode cc pc = .ok (.getfield index, 3)) (kk : W p l e Rm s m args below meth c H locs cells slots Q (F0 m (pc + 3) ls (v :: rest))) : W p l e Rm s m args below meth c H locs cells slots Q (F0 m pc ls (.ref a :: rest)) := nm_get hx hb ht qL3 hown hK.1 hw hn ha rfl k hk (ht _ hf) (fun _ h => h) hv hdg kk
theorem fp3 (hx : p.tables.exec = Jvm.exec) (hb : c.code = cc) (ht : ∀ w ∈ im_ws, w.before args s = true) (hown : s.vm.findClass own = some m.cls) (hK : im_K D cA s) (hw : nh_S D im_cl im_sk cA A H0 S g I R H locs) (hn : S n = some (0, 3)) (ha : g n = a) (k : Nat) (hf : Cond.fieldLink own index (qT3 k).1 (qT3 k).2.1 (qT3 k).2.2.1 ∈ im_ws) (hk : k < 4) (hfin : (qT3 k).2.2.2 = false) {x : Int32} (hnr : narrow (qY3 k) (.int x) = .int x) (hfit : fits (qY3 k) (.int x) = true) (hsk : im_sk 3 k = false) (hdg : decode cc pc = .ok (.putfield index, 3)) (kk : ∀ (H1 : Heap) (locs1 : List Loc) (I1 : nh_N → Nat → Int32), I1 = iu I n k x → nh_S D im_cl im_sk cA A H0 S g I1 R H1 locs1 → W p l e Rm s m args below meth c H1 locs1 cells slots Q (F0 m (pc + 3) ls rest)) : W p l e Rm s m args below meth c H locs cells slots Q (F0 m pc ls (.int x :: .ref a :: rest)) := nm_put hx hb ht qL3 qY3 qO3 qN3 hown hK.1 hw hn ha rfl k hk (ht _ hf) (fun _ h => h) hfin (qO3 k hk) hnr hfit hsk hdg (fun H1 locs1 h => kk H1 locs1 _ rfl h)
theorem fP3 (hx : p.tables.exec = Jvm.exec) (hb : c.code = cc) (ht : ∀ w ∈ im_ws, w.before args s = true) (hown : s.vm.findClass own = some m.cls) (hK : im_K D cA s) (hw : nh_S D im_cl im_sk cA A H0 S g I R H locs) (hn : S n = some (0, 3)) (ha : g n = a) (k : Nat) (hf : Cond.fieldLink own index (qT3 k).1 (qT3 k).2.1 (qT3 k).2.2.1 ∈ im_ws) (hk : k < 4) (hfin : (qT3 k).2.2.2 = true) (hin : meth.name = "<init>") (hdc : (qT3 k).1 = own) {x : Int32} (hnr : narrow (qY3 k) (.int x) = .int x) (hfit : fits (qY3 k) (.int x) = true) (hsk : im_sk 3 k = false) (hdg : decode cc pc = .ok (.putfield index, 3)) (kk : ∀ (H1 : Heap) (locs1 : List Loc) (I1 : nh_N → Nat → Int32), I1 = iu I n k x → nh_S D im_cl im_sk cA A H0 S g I1 R H1 locs1 → W p l e Rm s m args below meth c H1 locs1 cells slots Q (F0 m (pc + 3) ls rest)) : W p l e Rm s m args below meth c H locs cells slots Q (F0 m pc ls (.int x :: .ref a :: rest)) := nm_putF hx hb ht qL3 qY3 qO3 qN3 hown hK.1 hw hn ha rfl k hk (ht _ hf) (fun _ h => h) hfin hin hdc (qO3 k hk) hnr hfit hsk hdg (fun H1 locs1 h => kk H1 locs1 _ rfl h)
theorem fQ3 (hx : p.tables.exec = Jvm.exec) (hb : c.code = cc) (ht : ∀ w ∈ im_ws, w.before args s = true) (hown : s.vm.findClass own = some m.cls) (hK : im_K D cA s) (hw : nh_S D im_cl im_sk cA A H0 S g I R H locs) (hn : S n = some (0, 3)) (ha : g n = a) (k : Nat) (hf : Cond.fieldLink own index (qT3 k).1 (qT3 k).2.1 (qT3 k).2.2.1 ∈ im_ws) (hk : k < 4) (hfin : (qT3 k).2.2.2 = true) (hin : meth.name = "<init>") (hdc : (qT3 k).1 = own) {v : Value} (q : Option nh_N) (hq : ∀ m, q = some m → ∃ c', S m = some c') (hv : va_rf (q.map g) = v) (hnr : narrow (qY3 k) v = v) (hfit : fits (qY3 k) v = true) (hsk : im_sk 3 k = true) (hdg : decode cc pc = .ok (.putfield index, 3)) (kk : ∀ (H1 : Heap) (locs1 : List Loc) (R1 : nh_N → Nat → Option nh_N), R1 = ru R n k q → nh_S D im_cl im_sk cA A H0 S g I R1 H1 locs1 → W p l e Rm s m args below meth c H1 locs1 cells slots Q (F0 m (pc + 3) ls rest)) : W p l e Rm s m args below meth c H locs cells slots Q (F0 m pc ls (v :: .ref a :: rest)) := nm_putFR hx hb ht qL3 qY3 qO3 qN3 hown hK.1 hw hn ha rfl k hk (ht _ hf) (fun _ h => h) hfin hin hdc q hq hv (qO3 k hk) hnr hfit hsk hdg (fun H1 locs1 h => kk H1 locs1 _ rfl h)
theorem fn3 (n : nh_N) (hx : p.tables.exec = Jvm.exec) (hb : c.code = cc) (ht : ∀ w ∈ im_ws, w.before args s = true) (hown : s.vm.findClass own = some m.cls) (hK : im_K D cA s) (hw : nh_S D im_cl im_sk cA A H0 S g I R H locs) (hn : S n = none) (hcl : Cond.classLink own index qR3 ∈ im_ws) (hcells : cells + 1 ≤ Rm.cells) (hslots : slots + 4 ≤ Rm.slots) (hdg : decode cc pc = .ok (.new index, 3)) (kk : ∀ (q : Nat) (H1 : Heap) (S1 : nh_N → Option nh_C) (g1 : nh_N → Nat) (I1 : nh_N → Nat → Int32) (R1 : nh_N → Nat → Option nh_N), S1 = nu S n (some (0, 3)) → g1 = nu g n q → I1 = nu I n (fun _ => 0) → R1 = nu R n (fun _ => none) → nh_S D im_cl im_sk cA A H0 S1 g1 I1 R1 H1 locs → W p l e Rm s m args below meth c H1 locs (cells + 1) (slots + 4) Q (F0 m (pc + 3) ls (.ref q :: rest))) : W p l e Rm s m args below meth c H locs cells slots Q (F0 m pc ls rest) := nm_new n hx hb ht qL3 qY3 qO3 hown (ht _ hcl) (ht _ wn3) (ht _ wz3) hK.1 hw hn rfl qD3 hcells hslots hdg (fun q H1 h => kk q H1 _ _ _ _ rfl rfl rfl rfl h)
theorem fg4 (hx : p.tables.exec = Jvm.exec) (hb : c.code = cc) (ht : ∀ w ∈ im_ws, w.before args s = true) (hown : s.vm.findClass own = some m.cls) (hK : im_K D cA s) (hw : nh_S D im_cl im_sk cA A H0 S g I R H locs) (hn : S n = some (0, 4)) (ha : g n = a) (k : Nat) (hf : Cond.fieldLink own index (qT4 k).1 (qT4 k).2.1 (qT4 k).2.2.1 ∈ im_ws) (hk : k < 3) {v : Value} (hv : nh_v g (I n) (R n) (im_sk 4 k) k = v) (hdg : decode cc pc = .ok (.getfield index, 3)) (kk : W p l e Rm s m args below meth c H locs cells slots Q (F0 m (pc + 3) ls (v :: rest))) : W p l e Rm s m args below meth c H locs cells slots Q (F0 m pc ls (.ref a :: rest)) := nm_get hx hb ht qL4 hown hK.1 hw hn ha rfl k hk (ht _ hf) (fun _ h => h) hv hdg kk
theorem fP4 (hx : p.tables.exec = Jvm.exec) (hb : c.code = cc) (ht : ∀ w ∈ im_ws, w.before args s = true) (hown : s.vm.findClass own = some m.cls) (hK : im_K D cA s) (hw : nh_S D im_cl im_sk cA A H0 S g I R H locs) (hn : S n = some (0, 4)) (ha : g n = a) (k : Nat) (hf : Cond.fieldLink own index (qT4 k).1 (qT4 k).2.1 (qT4 k).2.2.1 ∈ im_ws) (hk : k < 3) (hfin : (qT4 k).2.2.2 = true) (hin : meth.name = "<init>") (hdc : (qT4 k).1 = own) {x : Int32} (hnr : narrow (qY4 k) (.int x) = .int x) (hfit : fits (qY4 k) (.int x) = true) (hsk : im_sk 4 k = false) (hdg : decode cc pc = .ok (.putfield index, 3)) (kk : ∀ (H1 : Heap) (locs1 : List Loc) (I1 : nh_N → Nat → Int32), I1 = iu I n k x → nh_S D im_cl im_sk cA A H0 S g I1 R H1 locs1 → W p l e Rm s m args below meth c H1 locs1 cells slots Q (F0 m (pc + 3) ls rest)) : W p l e Rm s m args below meth c H locs cells slots Q (F0 m pc ls (.int x :: .ref a :: rest)) := nm_putF hx hb ht qL4 qY4 qO4 qN4 hown hK.1 hw hn ha rfl k hk (ht _ hf) (fun _ h => h) hfin hin hdc (qO4 k hk) hnr hfit hsk hdg (fun H1 locs1 h => kk H1 locs1 _ rfl h)
theorem fQ4 (hx : p.tables.exec = Jvm.exec) (hb : c.code = cc) (ht : ∀ w ∈ im_ws, w.before args s = true) (hown : s.vm.findClass own = some m.cls) (hK : im_K D cA s) (hw : nh_S D im_cl im_sk cA A H0 S g I R H locs) (hn : S n = some (0, 4)) (ha : g n = a) (k : Nat) (hf : Cond.fieldLink own index (qT4 k).1 (qT4 k).2.1 (qT4 k).2.2.1 ∈ im_ws) (hk : k < 3) (hfin : (qT4 k).2.2.2 = true) (hin : meth.name = "<init>") (hdc : (qT4 k).1 = own) {v : Value} (q : Option nh_N) (hq : ∀ m, q = some m → ∃ c', S m = some c') (hv : va_rf (q.map g) = v) (hnr : narrow (qY4 k) v = v) (hfit : fits (qY4 k) v = true) (hsk : im_sk 4 k = true) (hdg : decode cc pc = .ok (.putfield index, 3)) (kk : ∀ (H1 : Heap) (locs1 : List Loc) (R1 : nh_N → Nat → Option nh_N), R1 = ru R n k q → nh_S D im_cl im_sk cA A H0 S g I R1 H1 locs1 → W p l e Rm s m args below meth c H1 locs1 cells slots Q (F0 m (pc + 3) ls rest)) : W p l e Rm s m args below meth c H locs cells slots Q (F0 m pc ls (v :: .ref a :: rest)) := nm_putFR hx hb ht qL4 qY4 qO4 qN4 hown hK.1 hw hn ha rfl k hk (ht _ hf) (fun _ h => h) hfin hin hdc q hq hv (qO4 k hk) hnr hfit hsk hdg (fun H1 locs1 h => kk H1 locs1 _ rfl h)
theorem fn4 (n : nh_N) (hx : p.tables.exec = Jvm.exec) (hb : c.code = cc) (ht : ∀ w ∈ im_ws, w.before args s = true) (hown : s.vm.findClass own = some m.cls) (hK : im_K D cA s) (hw : nh_S D im_cl im_sk cA A H0 S g I R H locs) (hn : S n = none) (hcl : Cond.classLink own index qR4 ∈ im_ws) (hcells : cells + 1 ≤ Rm.cells) (hslots : slots + 3 ≤ Rm.slots) (hdg : decode cc pc = .ok (.new index, 3)) (kk : ∀ (q : Nat) (H1 : Heap) (S1 : nh_N → Option nh_C) (g1 : nh_N → Nat) (I1 : nh_N → Nat → Int32) (R1 : nh_N → Nat → Option nh_N), S1 = nu S n (some (0, 4)) → g1 = nu g n q → I1 = nu I n (fun _ => 0) → R1 = nu R n (fun _ => none) → nh_S D im_cl im_sk cA A H0 S1 g1 I1 R1 H1 locs → W p l e Rm s m args below meth c H1 locs (cells + 1) (slots + 3) Q (F0 m (pc + 3) ls (.ref q :: rest))) : W p l e Rm s m args below meth c H locs cells slots Q (F0 m pc ls rest) := nm_new n hx hb ht qL4 qY4 qO4 hown (ht _ hcl) (ht _ wn4) (ht _ wz4) hK.1 hw hn rfl qD4 hcells hslots hdg (fun q H1 h => kk q H1 _ _ _ _ rfl rfl rfl rfl h)
theorem fg5 (hx : p.tables.exec = Jvm.exec) (hb : c.code = cc) (ht : ∀ w ∈ im_ws, w.before args s = true) (hown : s.vm.findClass own = some m.cls) (hK : im_K D cA s) (hw : nh_S D im_cl im_sk cA A H0 S g I R H locs) (hn : S n = some (0, 5)) (ha : g n = a) (k : Nat) (hf : Cond.fieldLink own index (qT5 k).1 (qT5 k).2.1 (qT5 k).2.2.1 ∈ im_ws) (hk : k < 9) {v : Value} (hv : nh_v g (I n) (R n) (im_sk 5 k) k = v) (hdg : decode cc pc = .ok (.getfield index, 3)) (kk : W p l e Rm s m args below meth c H locs cells slots Q (F0 m (pc + 3) ls (v :: rest))) : W p l e Rm s m args below meth c H locs cells slots Q (F0 m pc ls (.ref a :: rest)) := nm_get hx hb ht qL5 hown hK.1 hw hn ha rfl k hk (ht _ hf) (fun _ h => h) hv hdg kk
theorem fp5 (hx : p.tables.exec = Jvm.exec) (hb : c.code = cc) (ht : ∀ w ∈ im_ws, w.before args s = true) (hown : s.vm.findClass own = some m.cls) (hK : im_K D cA s) (hw : nh_S D im_cl im_sk cA A H0 S g I R H locs) (hn : S n = some (0, 5)) (ha : g n = a) (k : Nat) (hf : Cond.fieldLink own index (qT5 k).1 (qT5 k).2.1 (qT5 k).2.2.1 ∈ im_ws) (hk : k < 9) (hfin : (qT5 k).2.2.2 = false) {x : Int32} (hnr : narrow (qY5 k) (.int x) = .int x) (hfit : fits (qY5 k) (.int x) = true) (hsk : im_sk 5 k = false) (hdg : decode cc pc = .ok (.putfield index, 3)) (kk : ∀ (H1 : Heap) (locs1 : List Loc) (I1 : nh_N → Nat → Int32), I1 = iu I n k x → nh_S D im_cl im_sk cA A H0 S g I1 R H1 locs1 → W p l e Rm s m args below meth c H1 locs1 cells slots Q (F0 m (pc + 3) ls rest)) : W p l e Rm s m args below meth c H locs cells slots Q (F0 m pc ls (.int x :: .ref a :: rest)) := nm_put hx hb ht qL5 qY5 qO5 qN5 hown hK.1 hw hn ha rfl k hk (ht _ hf) (fun _ h => h) hfin (qO5 k hk) hnr hfit hsk hdg (fun H1 locs1 h => kk H1 locs1 _ rfl h)
theorem fP5 (hx : p.tables.exec = Jvm.exec) (hb : c.code = cc) (ht : ∀ w ∈ im_ws, w.before args s = true) (hown : s.vm.findClass own = some m.cls) (hK : im_K D cA s) (hw : nh_S D im_cl im_sk cA A H0 S g I R H locs) (hn : S n = some (0, 5)) (ha : g n = a) (k : Nat) (hf : Cond.fieldLink own index (qT5 k).1 (qT5 k).2.1 (qT5 k).2.2.1 ∈ im_ws) (hk : k < 9) (hfin : (qT5 k).2.2.2 = true) (hin : meth.name = "<init>") (hdc : (qT5 k).1 = own) {x : Int32} (hnr : narrow (qY5 k) (.int x) = .int x) (hfit : fits (qY5 k) (.int x) = true) (hsk : im_sk 5 k = false) (hdg : decode cc pc = .ok (.putfield index, 3)) (kk : ∀ (H1 : Heap) (locs1 : List Loc) (I1 : nh_N → Nat → Int32), I1 = iu I n k x → nh_S D im_cl im_sk cA A H0 S g I1 R H1 locs1 → W p l e Rm s m args below meth c H1 locs1 cells slots Q (F0 m (pc + 3) ls rest)) : W p l e Rm s m args below meth c H locs cells slots Q (F0 m pc ls (.int x :: .ref a :: rest)) := nm_putF hx hb ht qL5 qY5 qO5 qN5 hown hK.1 hw hn ha rfl k hk (ht _ hf) (fun _ h => h) hfin hin hdc (qO5 k hk) hnr hfit hsk hdg (fun H1 locs1 h => kk H1 locs1 _ rfl h)
theorem fQ5 (hx : p.tables.exec = Jvm.exec) (hb : c.code = cc) (ht : ∀ w ∈ im_ws, w.before args s = true) (hown : s.vm.findClass own = some m.cls) (hK : im_K D cA s) (hw : nh_S D im_cl im_sk cA A H0 S g I R H locs) (hn : S n = some (0, 5)) (ha : g n = a) (k : Nat) (hf : Cond.fieldLink own index (qT5 k).1 (qT5 k).2.1 (qT5 k).2.2.1 ∈ im_ws) (hk : k < 9) (hfin : (qT5 k).2.2.2 = true) (hin : meth.name = "<init>") (hdc : (qT5 k).1 = own) {v : Value} (q : Option nh_N) (hq : ∀ m, q = some m → ∃ c', S m = some c') (hv : va_rf (q.map g) = v) (hnr : narrow (qY5 k) v = v) (hfit : fits (qY5 k) v = true) (hsk : im_sk 5 k = true) (hdg : decode cc pc = .ok (.putfield index, 3)) (kk : ∀ (H1 : Heap) (locs1 : List Loc) (R1 : nh_N → Nat → Option nh_N), R1 = ru R n k q → nh_S D im_cl im_sk cA A H0 S g I R1 H1 locs1 → W p l e Rm s m args below meth c H1 locs1 cells slots Q (F0 m (pc + 3) ls rest)) : W p l e Rm s m args below meth c H locs cells slots Q (F0 m pc ls (v :: .ref a :: rest)) := nm_putFR hx hb ht qL5 qY5 qO5 qN5 hown hK.1 hw hn ha rfl k hk (ht _ hf) (fun _ h => h) hfin hin hdc q hq hv (qO5 k hk) hnr hfit hsk hdg (fun H1 locs1 h => kk H1 locs1 _ rfl h)
theorem fn5 (n : nh_N) (hx : p.tables.exec = Jvm.exec) (hb : c.code = cc) (ht : ∀ w ∈ im_ws, w.before args s = true) (hown : s.vm.findClass own = some m.cls) (hK : im_K D cA s) (hw : nh_S D im_cl im_sk cA A H0 S g I R H locs) (hn : S n = none) (hcl : Cond.classLink own index qR5 ∈ im_ws) (hcells : cells + 1 ≤ Rm.cells) (hslots : slots + 9 ≤ Rm.slots) (hdg : decode cc pc = .ok (.new index, 3)) (kk : ∀ (q : Nat) (H1 : Heap) (S1 : nh_N → Option nh_C) (g1 : nh_N → Nat) (I1 : nh_N → Nat → Int32) (R1 : nh_N → Nat → Option nh_N), S1 = nu S n (some (0, 5)) → g1 = nu g n q → I1 = nu I n (fun _ => 0) → R1 = nu R n (fun _ => none) → nh_S D im_cl im_sk cA A H0 S1 g1 I1 R1 H1 locs → W p l e Rm s m args below meth c H1 locs (cells + 1) (slots + 9) Q (F0 m (pc + 3) ls (.ref q :: rest))) : W p l e Rm s m args below meth c H locs cells slots Q (F0 m pc ls rest) := nm_new n hx hb ht qL5 qY5 qO5 hown (ht _ hcl) (ht _ wn5) (ht _ wz5) hK.1 hw hn rfl qD5 hcells hslots hdg (fun q H1 h => kk q H1 _ _ _ _ rfl rfl rfl rfl h)
theorem fg6 (hx : p.tables.exec = Jvm.exec) (hb : c.code = cc) (ht : ∀ w ∈ im_ws, w.before args s = true) (hown : s.vm.findClass own = some m.cls) (hK : im_K D cA s) (hw : nh_S D im_cl im_sk cA A H0 S g I R H locs) (hn : S n = some (0, 6)) (ha : g n = a) (k : Nat) (hf : Cond.fieldLink own index (qT6 k).1 (qT6 k).2.1 (qT6 k).2.2.1 ∈ im_ws) (hk : k < 28) {v : Value} (hv : nh_v g (I n) (R n) (im_sk 6 k) k = v) (hdg : decode cc pc = .ok (.getfield index, 3)) (kk : W p l e Rm s m args below meth c H locs cells slots Q (F0 m (pc + 3) ls (v :: rest))) : W p l e Rm s m args below meth c H locs cells slots Q (F0 m pc ls (.ref a :: rest)) := nm_get hx hb ht qL6 hown hK.1 hw hn ha rfl k hk (ht _ hf) (fun _ h => h) hv hdg kk
theorem fp6 (hx : p.tables.exec = Jvm.exec) (hb : c.code = cc) (ht : ∀ w ∈ im_ws, w.before args s = true) (hown : s.vm.findClass own = some m.cls) (hK : im_K D cA s) (hw : nh_S D im_cl im_sk cA A H0 S g I R H locs) (hn : S n = some (0, 6)) (ha : g n = a) (k : Nat) (hf : Cond.fieldLink own index (qT6 k).1 (qT6 k).2.1 (qT6 k).2.2.1 ∈ im_ws) (hk : k < 28) (hfin : (qT6 k).2.2.2 = false) {x : Int32} (hnr : narrow (qY6 k) (.int x) = .int x) (hfit : fits (qY6 k) (.int x) = true) (hsk : im_sk 6 k = false) (hdg : decode cc pc = .ok (.putfield index, 3)) (kk : ∀ (H1 : Heap) (locs1 : List Loc) (I1 : nh_N → Nat → Int32), I1 = iu I n k x → nh_S D im_cl im_sk cA A H0 S g I1 R H1 locs1 → W p l e Rm s m args below meth c H1 locs1 cells slots Q (F0 m (pc + 3) ls rest)) : W p l e Rm s m args below meth c H locs cells slots Q (F0 m pc ls (.int x :: .ref a :: rest)) := nm_put hx hb ht qL6 qY6 qO6 qN6 hown hK.1 hw hn ha rfl k hk (ht _ hf) (fun _ h => h) hfin (qO6 k hk) hnr hfit hsk hdg (fun H1 locs1 h => kk H1 locs1 _ rfl h)
theorem fP6 (hx : p.tables.exec = Jvm.exec) (hb : c.code = cc) (ht : ∀ w ∈ im_ws, w.before args s = true) (hown : s.vm.findClass own = some m.cls) (hK : im_K D cA s) (hw : nh_S D im_cl im_sk cA A H0 S g I R H locs) (hn : S n = some (0, 6)) (ha : g n = a) (k : Nat) (hf : Cond.fieldLink own index (qT6 k).1 (qT6 k).2.1 (qT6 k).2.2.1 ∈ im_ws) (hk : k < 28) (hfin : (qT6 k).2.2.2 = true) (hin : meth.name = "<init>") (hdc : (qT6 k).1 = own) {x : Int32} (hnr : narrow (qY6 k) (.int x) = .int x) (hfit : fits (qY6 k) (.int x) = true) (hsk : im_sk 6 k = false) (hdg : decode cc pc = .ok (.putfield index, 3)) (kk : ∀ (H1 : Heap) (locs1 : List Loc) (I1 : nh_N → Nat → Int32), I1 = iu I n k x → nh_S D im_cl im_sk cA A H0 S g I1 R H1 locs1 → W p l e Rm s m args below meth c H1 locs1 cells slots Q (F0 m (pc + 3) ls rest)) : W p l e Rm s m args below meth c H locs cells slots Q (F0 m pc ls (.int x :: .ref a :: rest)) := nm_putF hx hb ht qL6 qY6 qO6 qN6 hown hK.1 hw hn ha rfl k hk (ht _ hf) (fun _ h => h) hfin hin hdc (qO6 k hk) hnr hfit hsk hdg (fun H1 locs1 h => kk H1 locs1 _ rfl h)
theorem fQ6 (hx : p.tables.exec = Jvm.exec) (hb : c.code = cc) (ht : ∀ w ∈ im_ws, w.before args s = true) (hown : s.vm.findClass own = some m.cls) (hK : im_K D cA s) (hw : nh_S D im_cl im_sk cA A H0 S g I R H locs) (hn : S n = some (0, 6)) (ha : g n = a) (k : Nat) (hf : Cond.fieldLink own index (qT6 k).1 (qT6 k).2.1 (qT6 k).2.2.1 ∈ im_ws) (hk : k < 28) (hfin : (qT6 k).2.2.2 = true) (hin : meth.name = "<init>") (hdc : (qT6 k).1 = own) {v : Value} (q : Option nh_N) (hq : ∀ m, q = some m → ∃ c', S m = some c') (hv : va_rf (q.map g) = v) (hnr : narrow (qY6 k) v = v) (hfit : fits (qY6 k) v = true) (hsk : im_sk 6 k = true) (hdg : decode cc pc = .ok (.putfield index, 3)) (kk : ∀ (H1 : Heap) (locs1 : List Loc) (R1 : nh_N → Nat → Option nh_N), R1 = ru R n k q → nh_S D im_cl im_sk cA A H0 S g I R1 H1 locs1 → W p l e Rm s m args below meth c H1 locs1 cells slots Q (F0 m (pc + 3) ls rest)) : W p l e Rm s m args below meth c H locs cells slots Q (F0 m pc ls (v :: .ref a :: rest)) := nm_putFR hx hb ht qL6 qY6 qO6 qN6 hown hK.1 hw hn ha rfl k hk (ht _ hf) (fun _ h => h) hfin hin hdc q hq hv (qO6 k hk) hnr hfit hsk hdg (fun H1 locs1 h => kk H1 locs1 _ rfl h)
theorem fn6 (n : nh_N) (hx : p.tables.exec = Jvm.exec) (hb : c.code = cc) (ht : ∀ w ∈ im_ws, w.before args s = true) (hown : s.vm.findClass own = some m.cls) (hK : im_K D cA s) (hw : nh_S D im_cl im_sk cA A H0 S g I R H locs) (hn : S n = none) (hcl : Cond.classLink own index qR6 ∈ im_ws) (hcells : cells + 1 ≤ Rm.cells) (hslots : slots + 28 ≤ Rm.slots) (hdg : decode cc pc = .ok (.new index, 3)) (kk : ∀ (q : Nat) (H1 : Heap) (S1 : nh_N → Option nh_C) (g1 : nh_N → Nat) (I1 : nh_N → Nat → Int32) (R1 : nh_N → Nat → Option nh_N), S1 = nu S n (some (0, 6)) → g1 = nu g n q → I1 = nu I n (fun _ => 0) → R1 = nu R n (fun _ => none) → nh_S D im_cl im_sk cA A H0 S1 g1 I1 R1 H1 locs → W p l e Rm s m args below meth c H1 locs (cells + 1) (slots + 28) Q (F0 m (pc + 3) ls (.ref q :: rest))) : W p l e Rm s m args below meth c H locs cells slots Q (F0 m pc ls rest) := nm_new n hx hb ht qL6 qY6 qO6 hown (ht _ hcl) (ht _ wn6) (ht _ wz6) hK.1 hw hn rfl qD6 hcells hslots hdg (fun q H1 h => kk q H1 _ _ _ _ rfl rfl rfl rfl h)
theorem ai_ld (hx : p.tables.exec = Jvm.exec) (hb : c.code = cc) (hK : im_K D cA s) (hw : nh_S D im_cl im_sk cA A H0 S g I R H locs) {N : Nat} (hn : S n = some (1, N)) (ha : g n = a) {i : Int32} (hin : vp_in i N) (hdg : decode cc pc = .ok (.iaload, 1)) (kk : W p l e Rm s m args below meth c H locs cells slots Q (F0 m (pc + 1) ls (.int (I n i.toNatClampNeg) :: rest))) : W p l e Rm s m args below meth c H locs cells slots Q (F0 m pc ls (.int i :: .ref a :: rest)) := nm_iald hx hb hK.1 hw hn ha rfl hin hdg kk
theorem az_ld (hx : p.tables.exec = Jvm.exec) (hb : c.code = cc) (hK : im_K D cA s) (hw : nh_S D im_cl im_sk cA A H0 S g I R H locs) {N : Nat} (hn : S n = some (2, N)) (ha : g n = a) {i : Int32} (hin : vp_in i N) (hdg : decode cc pc = .ok (.baload, 1)) (kk : W p l e Rm s m args below meth c H locs cells slots Q (F0 m (pc + 1) ls (.int (I n i.toNatClampNeg) :: rest))) : W p l e Rm s m args below meth c H locs cells slots Q (F0 m pc ls (.int i :: .ref a :: rest)) := nm_zald hx hb hK.1 hw hn ha rfl hin hdg kk
theorem ai_st (hx : p.tables.exec = Jvm.exec) (hb : c.code = cc) (hK : im_K D cA s) (hw : nh_S D im_cl im_sk cA A H0 S g I R H locs) {N : Nat} (hn : S n = some (1, N)) (ha : g n = a) {i x : Int32} (hin : vp_in i N) (hdg : decode cc pc = .ok (.iastore, 1)) (kk : ∀ (H1 : Heap) (locs1 : List Loc) (I1 : nh_N → Nat → Int32), I1 = iu I n i.toNatClampNeg x → nh_S D im_cl im_sk cA A H0 S g I1 R H1 locs1 → W p l e Rm s m args below meth c H1 locs1 cells slots Q (F0 m (pc + 1) ls rest)) : W p l e Rm s m args below meth c H locs cells slots Q (F0 m pc ls (.int x :: .int i :: .ref a :: rest)) := nm_iast hx hb hK.1 hw hn ha rfl hin hdg (fun H1 locs1 h => kk H1 locs1 _ rfl h)
theorem az_st (hx : p.tables.exec = Jvm.exec) (hb : c.code = cc) (hK : im_K D cA s) (hw : nh_S D im_cl im_sk cA A H0 S g I R H locs) {N : Nat} (hn : S n = some (2, N)) (ha : g n = a) {i x : Int32} (hin : vp_in i N) (hz : narrow .boolean (.int x) = .int x) (hdg : decode cc pc = .ok (.bastore, 1)) (kk : ∀ (H1 : Heap) (locs1 : List Loc) (I1 : nh_N → Nat → Int32), I1 = iu I n i.toNatClampNeg x → nh_S D im_cl im_sk cA A H0 S g I1 R H1 locs1 → W p l e Rm s m args below meth c H1 locs1 cells slots Q (F0 m (pc + 1) ls rest)) : W p l e Rm s m args below meth c H locs cells slots Q (F0 m pc ls (.int x :: .int i :: .ref a :: rest)) := nm_zast hx hb hK.1 hw hn ha rfl hin hz hdg (fun H1 locs1 h => kk H1 locs1 _ rfl h)
theorem ai_len (hx : p.tables.exec = Jvm.exec) (hb : c.code = cc) (hK : im_K D cA s) (hw : nh_S D im_cl im_sk cA A H0 S g I R H locs) {N : Nat} (hn : S n = some (1, N)) (ha : g n = a) (hdg : decode cc pc = .ok (.arraylength, 1)) (kk : W p l e Rm s m args below meth c H locs cells slots Q (F0 m (pc + 1) ls (.int (nI N) :: rest))) : W p l e Rm s m args below meth c H locs cells slots Q (F0 m pc ls (.ref a :: rest)) := nm_alenI hx hb hK.1 hw hn ha rfl rfl hdg kk
theorem ar_ld1 (hx : p.tables.exec = Jvm.exec) (hb : c.code = cc) (hK : im_K D cA s) (hw : nh_S D im_cl im_sk cA A H0 S g I R H locs) {N : Nat} (hn : S n = some (3, N)) (ha : g n = a) {i : Int32} (hin : vp_in i N) {v : Value} (hv : va_rf ((R n i.toNatClampNeg).map g) = v) (hdg : decode cc pc = .ok (.aaload, 1)) (kk : W p l e Rm s m args below meth c H locs cells slots Q (F0 m (pc + 1) ls (v :: rest))) : W p l e Rm s m args below meth c H locs cells slots Q (F0 m pc ls (.int i :: .ref a :: rest)) := nm_aald (t := 0) hx hb hK.1 hw hn ha rfl hin hv hdg kk
theorem ar_len1 (hx : p.tables.exec = Jvm.exec) (hb : c.code = cc) (hK : im_K D cA s) (hw : nh_S D im_cl im_sk cA A H0 S g I R H locs) {N : Nat} (hn : S n = some (3, N)) (ha : g n = a) (hdg : decode cc pc = .ok (.arraylength, 1)) (kk : W p l e Rm s m args below meth c H locs cells slots Q (F0 m (pc + 1) ls (.int (nI N) :: rest))) : W p l e Rm s m args below meth c H locs cells slots Q (F0 m pc ls (.ref a :: rest)) := nm_alenR (t := 0) hx hb hK.1 hw hn ha rfl rfl hdg kk
theorem ar_st1 (hx : p.tables.exec = Jvm.exec) (hb : c.code = cc) (hK : im_K D cA s) (hw : nh_S D im_cl im_sk cA A H0 S g I R H locs) {N v : Nat} (hn : S n = some (3, N)) (ha : g n = a) (q : nh_N) (hq : S q = some (0, 1)) (hv : g q = v) {i : Int32} (hin : vp_in i N) (hdg : decode cc pc = .ok (.aastore, 1)) (kk : ∀ (H1 : Heap) (locs1 : List Loc) (R1 : nh_N → Nat → Option nh_N), R1 = ru R n i.toNatClampNeg (some q) → nh_S D im_cl im_sk cA A H0 S g I R1 H1 locs1 → W p l e Rm s m args below meth c H1 locs1 cells slots Q (F0 m (pc + 1) ls rest)) : W p l e Rm s m args below meth c H locs cells slots Q (F0 m pc ls (.ref v :: .int i :: .ref a :: rest)) := nm_aast (t := 0) (r := (qR1, qT1, 9)) hx hb hK.1 hw hn ha rfl q hq hv rfl hin hdg (fun H1 locs1 h => kk H1 locs1 _ rfl h)
theorem ar_new1 (n : nh_N) (hx : p.tables.exec = Jvm.exec) (hb : c.code = cc) (ht : ∀ w ∈ im_ws, w.before args s = true) (hown : s.vm.findClass own = some m.cls) (hK : im_K D cA s) (hw : nh_S D im_cl im_sk cA A H0 S g I R H locs) (hn : S n = none) (hcl : Cond.classLink own index qR1 ∈ im_ws) {x : Int32} {N' : Nat} (hx0 : ¬ x < 0) (hN : x.toNatClampNeg = N') (hby : N' * 4 ≤ 536870912) (hcells : cells + 1 ≤ Rm.cells) (hslots : slots + N' ≤ Rm.slots) (hdg : decode cc pc = .ok (.anewarray index, 3)) (kk : ∀ (q : Nat) (H1 : Heap) (S1 : nh_N → Option nh_C) (g1 : nh_N → Nat) (I1 : nh_N → Nat → Int32) (R1 : nh_N → Nat → Option nh_N), S1 = nu S n (some (3, N')) → g1 = nu g n q → I1 = nu I n (fun _ => 0) → R1 = nu R n (fun _ => none) → nh_S D im_cl im_sk cA A H0 S1 g1 I1 R1 H1 locs → W p l e Rm s m args below meth c H1 locs (cells + 1) (slots + N') Q (F0 m (pc + 3) ls (.ref q :: rest))) : W p l e Rm s m args below meth c H locs cells slots Q (F0 m pc ls (.int x :: rest)) := nm_newR (t := 0) n hx hb hown (ht _ hcl) hK.2.1 hK.1 hw hn rfl hx0 hN hby hcells hslots hdg (fun q H1 h => kk q H1 _ _ _ _ rfl rfl rfl rfl h)
theorem ar_ld0 (hx : p.tables.exec = Jvm.exec) (hb : c.code = cc) (hK : im_K D cA s) (hw : nh_S D im_cl im_sk cA A H0 S g I R H locs) {N : Nat} (hn : S n = some (4, N)) (ha : g n = a) {i : Int32} (hin : vp_in i N) {v : Value} (hv : va_rf ((R n i.toNatClampNeg).map g) = v) (hdg : decode cc pc = .ok (.aaload, 1)) (kk : W p l e Rm s m args below meth c H locs cells slots Q (F0 m (pc + 1) ls (v :: rest))) : W p l e Rm s m args below meth c H locs cells slots Q (F0 m pc ls (.int i :: .ref a :: rest)) := nm_aald (t := 1) hx hb hK.1 hw hn ha rfl hin hv hdg kk
theorem ar_len0 (hx : p.tables.exec = Jvm.exec) (hb : c.code = cc) (hK : im_K D cA s) (hw : nh_S D im_cl im_sk cA A H0 S g I R H locs) {N : Nat} (hn : S n = some (4, N)) (ha : g n = a) (hdg : decode cc pc = .ok (.arraylength, 1)) (kk : W p l e Rm s m args below meth c H locs cells slots Q (F0 m (pc + 1) ls (.int (nI N) :: rest))) : W p l e Rm s m args below meth c H locs cells slots Q (F0 m pc ls (.ref a :: rest)) := nm_alenR (t := 1) hx hb hK.1 hw hn ha rfl rfl hdg kk
theorem ar_st0 (hx : p.tables.exec = Jvm.exec) (hb : c.code = cc) (hK : im_K D cA s) (hw : nh_S D im_cl im_sk cA A H0 S g I R H locs) {N v : Nat} (hn : S n = some (4, N)) (ha : g n = a) (q : nh_N) (hq : S q = some (0, 0)) (hv : g q = v) {i : Int32} (hin : vp_in i N) (hdg : decode cc pc = .ok (.aastore, 1)) (kk : ∀ (H1 : Heap) (locs1 : List Loc) (R1 : nh_N → Nat → Option nh_N), R1 = ru R n i.toNatClampNeg (some q) → nh_S D im_cl im_sk cA A H0 S g I R1 H1 locs1 → W p l e Rm s m args below meth c H1 locs1 cells slots Q (F0 m (pc + 1) ls rest)) : W p l e Rm s m args below meth c H locs cells slots Q (F0 m pc ls (.ref v :: .int i :: .ref a :: rest)) := nm_aast (t := 1) (r := (qR0, qT0, 8)) hx hb hK.1 hw hn ha rfl q hq hv rfl hin hdg (fun H1 locs1 h => kk H1 locs1 _ rfl h)
theorem ar_new0 (n : nh_N) (hx : p.tables.exec = Jvm.exec) (hb : c.code = cc) (ht : ∀ w ∈ im_ws, w.before args s = true) (hown : s.vm.findClass own = some m.cls) (hK : im_K D cA s) (hw : nh_S D im_cl im_sk cA A H0 S g I R H locs) (hn : S n = none) (hcl : Cond.classLink own index qR0 ∈ im_ws) {x : Int32} {N' : Nat} (hx0 : ¬ x < 0) (hN : x.toNatClampNeg = N') (hby : N' * 4 ≤ 536870912) (hcells : cells + 1 ≤ Rm.cells) (hslots : slots + N' ≤ Rm.slots) (hdg : decode cc pc = .ok (.anewarray index, 3)) (kk : ∀ (q : Nat) (H1 : Heap) (S1 : nh_N → Option nh_C) (g1 : nh_N → Nat) (I1 : nh_N → Nat → Int32) (R1 : nh_N → Nat → Option nh_N), S1 = nu S n (some (4, N')) → g1 = nu g n q → I1 = nu I n (fun _ => 0) → R1 = nu R n (fun _ => none) → nh_S D im_cl im_sk cA A H0 S1 g1 I1 R1 H1 locs → W p l e Rm s m args below meth c H1 locs (cells + 1) (slots + N') Q (F0 m (pc + 3) ls (.ref q :: rest))) : W p l e Rm s m args below meth c H locs cells slots Q (F0 m pc ls (.int x :: rest)) := nm_newR (t := 1) n hx hb hown (ht _ hcl) hK.2.2.1 hK.1 hw hn rfl hx0 hN hby hcells hslots hdg (fun q H1 h => kk q H1 _ _ _ _ rfl rfl rfl rfl h)
theorem ar_ld3 (hx : p.tables.exec = Jvm.exec) (hb : c.code = cc) (hK : im_K D cA s) (hw : nh_S D im_cl im_sk cA A H0 S g I R H locs) {N : Nat} (hn : S n = some (5, N)) (ha : g n = a) {i : Int32} (hin : vp_in i N) {v : Value} (hv : va_rf ((R n i.toNatClampNeg).map g) = v) (hdg : decode cc pc = .ok (.aaload, 1)) (kk : W p l e Rm s m args below meth c H locs cells slots Q (F0 m (pc + 1) ls (v :: rest))) : W p l e Rm s m args below meth c H locs cells slots Q (F0 m pc ls (.int i :: .ref a :: rest)) := nm_aald (t := 2) hx hb hK.1 hw hn ha rfl hin hv hdg kk
theorem ar_len3 (hx : p.tables.exec = Jvm.exec) (hb : c.code = cc) (hK : im_K D cA s) (hw : nh_S D im_cl im_sk cA A H0 S g I R H locs) {N : Nat} (hn : S n = some (5, N)) (ha : g n = a) (hdg : decode cc pc = .ok (.arraylength, 1)) (kk : W p l e Rm s m args below meth c H locs cells slots Q (F0 m (pc + 1) ls (.int (nI N) :: rest))) : W p l e Rm s m args below meth c H locs cells slots Q (F0 m pc ls (.ref a :: rest)) := nm_alenR (t := 2) hx hb hK.1 hw hn ha rfl rfl hdg kk
theorem ar_st3 (hx : p.tables.exec = Jvm.exec) (hb : c.code = cc) (hK : im_K D cA s) (hw : nh_S D im_cl im_sk cA A H0 S g I R H locs) {N v : Nat} (hn : S n = some (5, N)) (ha : g n = a) (q : nh_N) (hq : S q = some (0, 3)) (hv : g q = v) {i : Int32} (hin : vp_in i N) (hdg : decode cc pc = .ok (.aastore, 1)) (kk : ∀ (H1 : Heap) (locs1 : List Loc) (R1 : nh_N → Nat → Option nh_N), R1 = ru R n i.toNatClampNeg (some q) → nh_S D im_cl im_sk cA A H0 S g I R1 H1 locs1 → W p l e Rm s m args below meth c H1 locs1 cells slots Q (F0 m (pc + 1) ls rest)) : W p l e Rm s m args below meth c H locs cells slots Q (F0 m pc ls (.ref v :: .int i :: .ref a :: rest)) := nm_aast (t := 2) (r := (qR3, qT3, 4)) hx hb hK.1 hw hn ha rfl q hq hv rfl hin hdg (fun H1 locs1 h => kk H1 locs1 _ rfl h)
theorem ar_new3 (n : nh_N) (hx : p.tables.exec = Jvm.exec) (hb : c.code = cc) (ht : ∀ w ∈ im_ws, w.before args s = true) (hown : s.vm.findClass own = some m.cls) (hK : im_K D cA s) (hw : nh_S D im_cl im_sk cA A H0 S g I R H locs) (hn : S n = none) (hcl : Cond.classLink own index qR3 ∈ im_ws) {x : Int32} {N' : Nat} (hx0 : ¬ x < 0) (hN : x.toNatClampNeg = N') (hby : N' * 4 ≤ 536870912) (hcells : cells + 1 ≤ Rm.cells) (hslots : slots + N' ≤ Rm.slots) (hdg : decode cc pc = .ok (.anewarray index, 3)) (kk : ∀ (q : Nat) (H1 : Heap) (S1 : nh_N → Option nh_C) (g1 : nh_N → Nat) (I1 : nh_N → Nat → Int32) (R1 : nh_N → Nat → Option nh_N), S1 = nu S n (some (5, N')) → g1 = nu g n q → I1 = nu I n (fun _ => 0) → R1 = nu R n (fun _ => none) → nh_S D im_cl im_sk cA A H0 S1 g1 I1 R1 H1 locs → W p l e Rm s m args below meth c H1 locs (cells + 1) (slots + N') Q (F0 m (pc + 3) ls (.ref q :: rest))) : W p l e Rm s m args below meth c H locs cells slots Q (F0 m pc ls (.int x :: rest)) := nm_newR (t := 2) n hx hb hown (ht _ hcl) hK.2.2.2.1 hK.1 hw hn rfl hx0 hN hby hcells hslots hdg (fun q H1 h => kk q H1 _ _ _ _ rfl rfl rfl rfl h)
theorem ar_ld4 (hx : p.tables.exec = Jvm.exec) (hb : c.code = cc) (hK : im_K D cA s) (hw : nh_S D im_cl im_sk cA A H0 S g I R H locs) {N : Nat} (hn : S n = some (6, N)) (ha : g n = a) {i : Int32} (hin : vp_in i N) {v : Value} (hv : va_rf ((R n i.toNatClampNeg).map g) = v) (hdg : decode cc pc = .ok (.aaload, 1)) (kk : W p l e Rm s m args below meth c H locs cells slots Q (F0 m (pc + 1) ls (v :: rest))) : W p l e Rm s m args below meth c H locs cells slots Q (F0 m pc ls (.int i :: .ref a :: rest)) := nm_aald (t := 3) hx hb hK.1 hw hn ha rfl hin hv hdg kk
theorem ar_len4 (hx : p.tables.exec = Jvm.exec) (hb : c.code = cc) (hK : im_K D cA s) (hw : nh_S D im_cl im_sk cA A H0 S g I R H locs) {N : Nat} (hn : S n = some (6, N)) (ha : g n = a) (hdg : decode cc pc = .ok (.arraylength, 1)) (kk : W p l e Rm s m args below meth c H locs cells slots Q (F0 m (pc + 1) ls (.int (nI N) :: rest))) : W p l e Rm s m args below meth c H locs cells slots Q (F0 m pc ls (.ref a :: rest)) := nm_alenR (t := 3) hx hb hK.1 hw hn ha rfl rfl hdg kk
theorem ar_st4 (hx : p.tables.exec = Jvm.exec) (hb : c.code = cc) (hK : im_K D cA s) (hw : nh_S D im_cl im_sk cA A H0 S g I R H locs) {N v : Nat} (hn : S n = some (6, N)) (ha : g n = a) (q : nh_N) (hq : S q = some (0, 4)) (hv : g q = v) {i : Int32} (hin : vp_in i N) (hdg : decode cc pc = .ok (.aastore, 1)) (kk : ∀ (H1 : Heap) (locs1 : List Loc) (R1 : nh_N → Nat → Option nh_N), R1 = ru R n i.toNatClampNeg (some q) → nh_S D im_cl im_sk cA A H0 S g I R1 H1 locs1 → W p l e Rm s m args below meth c H1 locs1 cells slots Q (F0 m (pc + 1) ls rest)) : W p l e Rm s m args below meth c H locs cells slots Q (F0 m pc ls (.ref v :: .int i :: .ref a :: rest)) := nm_aast (t := 3) (r := (qR4, qT4, 3)) hx hb hK.1 hw hn ha rfl q hq hv rfl hin hdg (fun H1 locs1 h => kk H1 locs1 _ rfl h)
theorem ar_new4 (n : nh_N) (hx : p.tables.exec = Jvm.exec) (hb : c.code = cc) (ht : ∀ w ∈ im_ws, w.before args s = true) (hown : s.vm.findClass own = some m.cls) (hK : im_K D cA s) (hw : nh_S D im_cl im_sk cA A H0 S g I R H locs) (hn : S n = none) (hcl : Cond.classLink own index qR4 ∈ im_ws) {x : Int32} {N' : Nat} (hx0 : ¬ x < 0) (hN : x.toNatClampNeg = N') (hby : N' * 4 ≤ 536870912) (hcells : cells + 1 ≤ Rm.cells) (hslots : slots + N' ≤ Rm.slots) (hdg : decode cc pc = .ok (.anewarray index, 3)) (kk : ∀ (q : Nat) (H1 : Heap) (S1 : nh_N → Option nh_C) (g1 : nh_N → Nat) (I1 : nh_N → Nat → Int32) (R1 : nh_N → Nat → Option nh_N), S1 = nu S n (some (6, N')) → g1 = nu g n q → I1 = nu I n (fun _ => 0) → R1 = nu R n (fun _ => none) → nh_S D im_cl im_sk cA A H0 S1 g1 I1 R1 H1 locs → W p l e Rm s m args below meth c H1 locs (cells + 1) (slots + N') Q (F0 m (pc + 3) ls (.ref q :: rest))) : W p l e Rm s m args below meth c H locs cells slots Q (F0 m pc ls (.int x :: rest)) := nm_newR (t := 3) n hx hb hown (ht _ hcl) hK.2.2.2.2.1 hK.1 hw hn rfl hx0 hN hby hcells hslots hdg (fun q H1 h => kk q H1 _ _ _ _ rfl rfl rfl rfl h)
theorem ai_new (n : nh_N) (ht : ∀ w ∈ im_ws, w.before args s = true) (hx : p.tables.exec = Jvm.exec) (hb : c.code = cc) (hK : im_K D cA s) (hw : nh_S D im_cl im_sk cA A H0 S g I R H locs) (hn : S n = none) {x : Int32} {N' : Nat} (hx0 : ¬ x < 0) (hN : x.toNatClampNeg = N') (hby : N' * componentBytes .int ≤ 536870912) (hcells : cells + 1 ≤ Rm.cells) (hslots : slots + N' ≤ Rm.slots) (hdg : decode cc pc = .ok (.newarray .int, 2)) (kk : ∀ (q : Nat) (H1 : Heap) (S1 : nh_N → Option nh_C) (g1 : nh_N → Nat) (I1 : nh_N → Nat → Int32) (R1 : nh_N → Nat → Option nh_N), S1 = nu S n (some (1, N')) → g1 = nu g n q → I1 = nu I n (fun _ => 0) → R1 = nu R n (fun _ => none) → nh_S D im_cl im_sk cA A H0 S1 g1 I1 R1 H1 locs → W p l e Rm s m args below meth c H1 locs (cells + 1) (slots + N') Q (F0 m (pc + 2) ls (.ref q :: rest))) : W p l e Rm s m args below meth c H locs cells slots Q (F0 m pc ls (.int x :: rest)) := nm_newI n hx hb (ht _ wa_int) hK.1 hw hn rfl hx0 hN hby hcells hslots rfl hdg (fun q H1 h => kk q H1 _ _ _ _ rfl rfl rfl rfl h)
theorem az_new (n : nh_N) (ht : ∀ w ∈ im_ws, w.before args s = true) (hx : p.tables.exec = Jvm.exec) (hb : c.code = cc) (hK : im_K D cA s) (hw : nh_S D im_cl im_sk cA A H0 S g I R H locs) (hn : S n = none) {x : Int32} {N' : Nat} (hx0 : ¬ x < 0) (hN : x.toNatClampNeg = N') (hby : N' * componentBytes .boolean ≤ 536870912) (hcells : cells + 1 ≤ Rm.cells) (hslots : slots + N' ≤ Rm.slots) (hdg : decode cc pc = .ok (.newarray .boolean, 2)) (kk : ∀ (q : Nat) (H1 : Heap) (S1 : nh_N → Option nh_C) (g1 : nh_N → Nat) (I1 : nh_N → Nat → Int32) (R1 : nh_N → Nat → Option nh_N), S1 = nu S n (some (2, N')) → g1 = nu g n q → I1 = nu I n (fun _ => 0) → R1 = nu R n (fun _ => none) → nh_S D im_cl im_sk cA A H0 S1 g1 I1 R1 H1 locs → W p l e Rm s m args below meth c H1 locs (cells + 1) (slots + N') Q (F0 m (pc + 2) ls (.ref q :: rest))) : W p l e Rm s m args below meth c H locs cells slots Q (F0 m pc ls (.int x :: rest)) := nm_newZ n hx hb (ht _ wa_boolean) hK.1 hw hn rfl hx0 hN hby hcells hslots rfl hdg (fun q H1 h => kk q H1 _ _ _ _ rfl rfl rfl rfl h)
variable {fr lo mc ms nL : Nat} {As : List Value} {b : Nat} {post : nh_post}
theorem kcX5_init (hl : Cond.methodLink own index yX5_init ∈ im_ws) (hM : im_M l D cA yX5_init vX5_init fr lo mc ms (.ref b :: As) S g I R post) (hx : p.tables.exec = Jvm.exec) (hb : c.code = cc) (hml : c.maxLocals = nL) (ht : ∀ w ∈ im_ws, w.before args s = true) (hown : s.vm.findClass own = some m.cls) (hK : im_K D cA s) (hw : nh_S D im_cl im_sk cA A H0 S g I R H locs) (hlen : As.length = 1) (hsz : ls.size = nL) (hst : st0 = As.reverse ++ .ref b :: rest) (hrm : (rest.map fun v => v.category).sum ≤ 8) (hR : fr + 1 ≤ Rm.frames ∧ 8 + (2 + 11) + lo ≤ Rm.locals) (hfit : cells + mc ≤ Rm.cells ∧ slots + ms ≤ Rm.slots) (hdg : decode cc pc = .ok (.invokespecial index, 3)) (kk : ∀ (v : Option Value) (S' : nh_N → Option nh_C) (g' : nh_N → Nat) (I' : nh_N → Nat → Int32) (R' : nh_N → Nat → Option nh_N) (H1 : Heap) (locs1 : List Loc), post v S' g' I' R' → nh_S D im_cl im_sk cA A H0 S' g' I' R' H1 locs1 → (∀ q, q < H.size → ¬ nh_A S g H.size q → H1[q]? = H[q]?) → (∀ n c, S' n = some c → nh_A S g H.size (g' n)) → W p l e Rm s m args below meth c H1 locs1 (cells + mc) (slots + ms) Q (F0 m (pc + 3) ls (v.toList ++ rest))) : W p l e Rm s m args below meth c H locs cells slots Q (F0 m pc ls st0) := nh_callI ⟨hx, hb, hml, hown, ht⟩ hM (cwI 1 ht (gd_ws wcX5_init) rfl rfl rfl (ht _ wz5) (ht _ hl) (ht _ wiX5_init) rfl (by decide +kernel) hR) (im_Kok D cA) hK hw hlen hsz hst hrm hdg hfit kk
theorem kcX5_cls {nm : nh_N} (hl : Cond.methodLink own index yX5_cls ∈ im_ws) (hM : im_M l D cA yX5_cls vX5_cls fr lo mc ms (.ref b :: As) S g I R post) (hx : p.tables.exec = Jvm.exec) (hb : c.code = cc) (hml : c.maxLocals = nL) (ht : ∀ w ∈ im_ws, w.before args s = true) (hown : s.vm.findClass own = some m.cls) (hK : im_K D cA s) (hw : nh_S D im_cl im_sk cA A H0 S g I R H locs) (hn : S nm = some (0, 5)) (hg : g nm = b) (hlen : As.length = 3) (hsz : ls.size = nL) (hst : st0 = As.reverse ++ .ref b :: rest) (hrm : (rest.map fun v => v.category).sum ≤ 8) (hR : fr + 1 ≤ Rm.frames ∧ 8 + (5 + 11) + lo ≤ Rm.locals) (hfit : cells + mc ≤ Rm.cells ∧ slots + ms ≤ Rm.slots) (hdg : decode cc pc = .ok (.invokevirtual index, 3)) (kk : ∀ (v : Option Value) (S' : nh_N → Option nh_C) (g' : nh_N → Nat) (I' : nh_N → Nat → Int32) (R' : nh_N → Nat → Option nh_N) (H1 : Heap) (locs1 : List Loc), post v S' g' I' R' → nh_S D im_cl im_sk cA A H0 S' g' I' R' H1 locs1 → W p l e Rm s m args below meth c H1 locs1 (cells + mc) (slots + ms) Q (F0 m (pc + 3) ls (v.toList ++ rest))) : W p l e Rm s m args below meth c H locs cells slots Q (F0 m pc ls st0) := nh_callV (tys := im_tys cA) (T := qT5) (N := 9) ⟨hx, hb, hml, hown, ht⟩ hM (cwV 3 ht (gd_V wcX5_cls hl wiX5_cls weX5_cls wz5) rfl rfl rfl (by decide +kernel) hR) (im_Kok D cA) hK hK.1 hw hn hg rfl hlen hsz hst hrm hdg hfit kk
theorem kcX5_cls_2 {nm : nh_N} (hl : Cond.methodLink own index yX5_cls ∈ im_ws) (hM : im_M l D cA yX5_cls vX5_cls fr lo mc ms (.ref b :: As) S g I R post) (hx : p.tables.exec = Jvm.exec) (hb : c.code = cc) (hml : c.maxLocals = nL) (ht : ∀ w ∈ im_ws, w.before args s = true) (hown : s.vm.findClass own = some m.cls) (hK : im_K D cA s) (hw : nh_S D im_cl im_sk cA A H0 S g I R H locs) (hn : S nm = some (0, 5)) (hg : g nm = b) (hlen : As.length = 3) (hsz : ls.size = nL) (hst : st0 = As.reverse ++ .ref b :: rest) (hrm : (rest.map fun v => v.category).sum ≤ 8) (hR : fr + 1 ≤ Rm.frames ∧ 8 + (5 + 11) + lo ≤ Rm.locals) (hfit : cells + mc ≤ Rm.cells ∧ slots + ms ≤ Rm.slots) (hdg : decode cc pc = .ok (.invokevirtual index, 3)) (kk : ∀ (v : Option Value) (S' : nh_N → Option nh_C) (g' : nh_N → Nat) (I' : nh_N → Nat → Int32) (R' : nh_N → Nat → Option nh_N) (H1 : Heap) (locs1 : List Loc), post v S' g' I' R' → nh_S D im_cl im_sk cA A H0 S' g' I' R' H1 locs1 → (∀ q, q < H.size → ¬ nh_A S g H.size q → H1[q]? = H[q]?) → (∀ n c, S' n = some c → nh_A S g H.size (g' n)) → W p l e Rm s m args below meth c H1 locs1 (cells + mc) (slots + ms) Q (F0 m (pc + 3) ls (v.toList ++ rest))) : W p l e Rm s m args below meth c H locs cells slots Q (F0 m pc ls st0) := nh_callV2 (tys := im_tys cA) (T := qT5) (N := 9) ⟨hx, hb, hml, hown, ht⟩ hM (cwV 3 ht (gd_V wcX5_cls hl wiX5_cls weX5_cls wz5) rfl rfl rfl (by decide +kernel) hR) (im_Kok D cA) hK hK.1 hw hn hg rfl hlen hsz hst hrm hdg hfit kk
theorem kcX5_insert {nm : nh_N} (hl : Cond.methodLink own index yX5_insert ∈ im_ws) (hM : im_M l D cA yX5_insert vX5_insert fr lo mc ms (.ref b :: As) S g I R post) (hx : p.tables.exec = Jvm.exec) (hb : c.code = cc) (hml : c.maxLocals = nL) (ht : ∀ w ∈ im_ws, w.before args s = true) (hown : s.vm.findClass own = some m.cls) (hK : im_K D cA s) (hw : nh_S D im_cl im_sk cA A H0 S g I R H locs) (hn : S nm = some (0, 5)) (hg : g nm = b) (hlen : As.length = 3) (hsz : ls.size = nL) (hst : st0 = As.reverse ++ .ref b :: rest) (hrm : (rest.map fun v => v.category).sum ≤ 8) (hR : fr + 1 ≤ Rm.frames ∧ 8 + (6 + 11) + lo ≤ Rm.locals) (hfit : cells + mc ≤ Rm.cells ∧ slots + ms ≤ Rm.slots) (hdg : decode cc pc = .ok (.invokevirtual index, 3)) (kk : ∀ (v : Option Value) (S' : nh_N → Option nh_C) (g' : nh_N → Nat) (I' : nh_N → Nat → Int32) (R' : nh_N → Nat → Option nh_N) (H1 : Heap) (locs1 : List Loc), post v S' g' I' R' → nh_S D im_cl im_sk cA A H0 S' g' I' R' H1 locs1 → W p l e Rm s m args below meth c H1 locs1 (cells + mc) (slots + ms) Q (F0 m (pc + 3) ls (v.toList ++ rest))) : W p l e Rm s m args below meth c H locs cells slots Q (F0 m pc ls st0) := nh_callV (tys := im_tys cA) (T := qT5) (N := 9) ⟨hx, hb, hml, hown, ht⟩ hM (cwV 3 ht (gd_V wcX5_insert hl wiX5_insert weX5_insert wz5) rfl rfl rfl (by decide +kernel) hR) (im_Kok D cA) hK hK.1 hw hn hg rfl hlen hsz hst hrm hdg hfit kk
theorem kcX5_insert_2 {nm : nh_N} (hl : Cond.methodLink own index yX5_insert ∈ im_ws) (hM : im_M l D cA yX5_insert vX5_insert fr lo mc ms (.ref b :: As) S g I R post) (hx : p.tables.exec = Jvm.exec) (hb : c.code = cc) (hml : c.maxLocals = nL) (ht : ∀ w ∈ im_ws, w.before args s = true) (hown : s.vm.findClass own = some m.cls) (hK : im_K D cA s) (hw : nh_S D im_cl im_sk cA A H0 S g I R H locs) (hn : S nm = some (0, 5)) (hg : g nm = b) (hlen : As.length = 3) (hsz : ls.size = nL) (hst : st0 = As.reverse ++ .ref b :: rest) (hrm : (rest.map fun v => v.category).sum ≤ 8) (hR : fr + 1 ≤ Rm.frames ∧ 8 + (6 + 11) + lo ≤ Rm.locals) (hfit : cells + mc ≤ Rm.cells ∧ slots + ms ≤ Rm.slots) (hdg : decode cc pc = .ok (.invokevirtual index, 3)) (kk : ∀ (v : Option Value) (S' : nh_N → Option nh_C) (g' : nh_N → Nat) (I' : nh_N → Nat → Int32) (R' : nh_N → Nat → Option nh_N) (H1 : Heap) (locs1 : List Loc), post v S' g' I' R' → nh_S D im_cl im_sk cA A H0 S' g' I' R' H1 locs1 → (∀ q, q < H.size → ¬ nh_A S g H.size q → H1[q]? = H[q]?) → (∀ n c, S' n = some c → nh_A S g H.size (g' n)) → W p l e Rm s m args below meth c H1 locs1 (cells + mc) (slots + ms) Q (F0 m (pc + 3) ls (v.toList ++ rest))) : W p l e Rm s m args below meth c H locs cells slots Q (F0 m pc ls st0) := nh_callV2 (tys := im_tys cA) (T := qT5) (N := 9) ⟨hx, hb, hml, hown, ht⟩ hM (cwV 3 ht (gd_V wcX5_insert hl wiX5_insert weX5_insert wz5) rfl rfl rfl (by decide +kernel) hR) (im_Kok D cA) hK hK.1 hw hn hg rfl hlen hsz hst hrm hdg hfit kk
theorem kcX5_mark {nm : nh_N} (hl : Cond.methodLink own index yX5_mark ∈ im_ws) (hM : im_M l D cA yX5_mark vX5_mark fr lo mc ms (.ref b :: As) S g I R post) (hx : p.tables.exec = Jvm.exec) (hb : c.code = cc) (hml : c.maxLocals = nL) (ht : ∀ w ∈ im_ws, w.before args s = true) (hown : s.vm.findClass own = some m.cls) (hK : im_K D cA s) (hw : nh_S D im_cl im_sk cA A H0 S g I R H locs) (hn : S nm = some (0, 5)) (hg : g nm = b) (hlen : As.length = 3) (hsz : ls.size = nL) (hst : st0 = As.reverse ++ .ref b :: rest) (hrm : (rest.map fun v => v.category).sum ≤ 8) (hR : fr + 1 ≤ Rm.frames ∧ 8 + (5 + 11) + lo ≤ Rm.locals) (hfit : cells + mc ≤ Rm.cells ∧ slots + ms ≤ Rm.slots) (hdg : decode cc pc = .ok (.invokevirtual index, 3)) (kk : ∀ (v : Option Value) (S' : nh_N → Option nh_C) (g' : nh_N → Nat) (I' : nh_N → Nat → Int32) (R' : nh_N → Nat → Option nh_N) (H1 : Heap) (locs1 : List Loc), post v S' g' I' R' → nh_S D im_cl im_sk cA A H0 S' g' I' R' H1 locs1 → W p l e Rm s m args below meth c H1 locs1 (cells + mc) (slots + ms) Q (F0 m (pc + 3) ls (v.toList ++ rest))) : W p l e Rm s m args below meth c H locs cells slots Q (F0 m pc ls st0) := nh_callV (tys := im_tys cA) (T := qT5) (N := 9) ⟨hx, hb, hml, hown, ht⟩ hM (cwV 3 ht (gd_V wcX5_mark hl wiX5_mark weX5_mark wz5) rfl rfl rfl (by decide +kernel) hR) (im_Kok D cA) hK hK.1 hw hn hg rfl hlen hsz hst hrm hdg hfit kk
theorem kcX5_mark_2 {nm : nh_N} (hl : Cond.methodLink own index yX5_mark ∈ im_ws) (hM : im_M l D cA yX5_mark vX5_mark fr lo mc ms (.ref b :: As) S g I R post) (hx : p.tables.exec = Jvm.exec) (hb : c.code = cc) (hml : c.maxLocals = nL) (ht : ∀ w ∈ im_ws, w.before args s = true) (hown : s.vm.findClass own = some m.cls) (hK : im_K D cA s) (hw : nh_S D im_cl im_sk cA A H0 S g I R H locs) (hn : S nm = some (0, 5)) (hg : g nm = b) (hlen : As.length = 3) (hsz : ls.size = nL) (hst : st0 = As.reverse ++ .ref b :: rest) (hrm : (rest.map fun v => v.category).sum ≤ 8) (hR : fr + 1 ≤ Rm.frames ∧ 8 + (5 + 11) + lo ≤ Rm.locals) (hfit : cells + mc ≤ Rm.cells ∧ slots + ms ≤ Rm.slots) (hdg : decode cc pc = .ok (.invokevirtual index, 3)) (kk : ∀ (v : Option Value) (S' : nh_N → Option nh_C) (g' : nh_N → Nat) (I' : nh_N → Nat → Int32) (R' : nh_N → Nat → Option nh_N) (H1 : Heap) (locs1 : List Loc), post v S' g' I' R' → nh_S D im_cl im_sk cA A H0 S' g' I' R' H1 locs1 → (∀ q, q < H.size → ¬ nh_A S g H.size q → H1[q]? = H[q]?) → (∀ n c, S' n = some c → nh_A S g H.size (g' n)) → W p l e Rm s m args below meth c H1 locs1 (cells + mc) (slots + ms) Q (F0 m (pc + 3) ls (v.toList ++ rest))) : W p l e Rm s m args below meth c H locs cells slots Q (F0 m pc ls st0) := nh_callV2 (tys := im_tys cA) (T := qT5) (N := 9) ⟨hx, hb, hml, hown, ht⟩ hM (cwV 3 ht (gd_V wcX5_mark hl wiX5_mark weX5_mark wz5) rfl rfl rfl (by decide +kernel) hR) (im_Kok D cA) hK hK.1 hw hn hg rfl hlen hsz hst hrm hdg hfit kk
theorem kcX5_close {nm : nh_N} (hl : Cond.methodLink own index yX5_close ∈ im_ws) (hM : im_M l D cA yX5_close vX5_close fr lo mc ms (.ref b :: As) S g I R post) (hx : p.tables.exec = Jvm.exec) (hb : c.code = cc) (hml : c.maxLocals = nL) (ht : ∀ w ∈ im_ws, w.before args s = true) (hown : s.vm.findClass own = some m.cls) (hK : im_K D cA s) (hw : nh_S D im_cl im_sk cA A H0 S g I R H locs) (hn : S nm = some (0, 5)) (hg : g nm = b) (hlen : As.length = 0) (hsz : ls.size = nL) (hst : st0 = As.reverse ++ .ref b :: rest) (hrm : (rest.map fun v => v.category).sum ≤ 8) (hR : fr + 1 ≤ Rm.frames ∧ 8 + (1 + 11) + lo ≤ Rm.locals) (hfit : cells + mc ≤ Rm.cells ∧ slots + ms ≤ Rm.slots) (hdg : decode cc pc = .ok (.invokevirtual index, 3)) (kk : ∀ (v : Option Value) (S' : nh_N → Option nh_C) (g' : nh_N → Nat) (I' : nh_N → Nat → Int32) (R' : nh_N → Nat → Option nh_N) (H1 : Heap) (locs1 : List Loc), post v S' g' I' R' → nh_S D im_cl im_sk cA A H0 S' g' I' R' H1 locs1 → W p l e Rm s m args below meth c H1 locs1 (cells + mc) (slots + ms) Q (F0 m (pc + 3) ls (v.toList ++ rest))) : W p l e Rm s m args below meth c H locs cells slots Q (F0 m pc ls st0) := nh_callV (tys := im_tys cA) (T := qT5) (N := 9) ⟨hx, hb, hml, hown, ht⟩ hM (cwV 0 ht (gd_V wcX5_close hl wiX5_close weX5_close wz5) rfl rfl rfl (by decide +kernel) hR) (im_Kok D cA) hK hK.1 hw hn hg rfl hlen hsz hst hrm hdg hfit kk
theorem kcX5_close_2 {nm : nh_N} (hl : Cond.methodLink own index yX5_close ∈ im_ws) (hM : im_M l D cA yX5_close vX5_close fr lo mc ms (.ref b :: As) S g I R post) (hx : p.tables.exec = Jvm.exec) (hb : c.code = cc) (hml : c.maxLocals = nL) (ht : ∀ w ∈ im_ws, w.before args s = true) (hown : s.vm.findClass own = some m.cls) (hK : im_K D cA s) (hw : nh_S D im_cl im_sk cA A H0 S g I R H locs) (hn : S nm = some (0, 5)) (hg : g nm = b) (hlen : As.length = 0) (hsz : ls.size = nL) (hst : st0 = As.reverse ++ .ref b :: rest) (hrm : (rest.map fun v => v.category).sum ≤ 8) (hR : fr + 1 ≤ Rm.frames ∧ 8 + (1 + 11) + lo ≤ Rm.locals) (hfit : cells + mc ≤ Rm.cells ∧ slots + ms ≤ Rm.slots) (hdg : decode cc pc = .ok (.invokevirtual index, 3)) (kk : ∀ (v : Option Value) (S' : nh_N → Option nh_C) (g' : nh_N → Nat) (I' : nh_N → Nat → Int32) (R' : nh_N → Nat → Option nh_N) (H1 : Heap) (locs1 : List Loc), post v S' g' I' R' → nh_S D im_cl im_sk cA A H0 S' g' I' R' H1 locs1 → (∀ q, q < H.size → ¬ nh_A S g H.size q → H1[q]? = H[q]?) → (∀ n c, S' n = some c → nh_A S g H.size (g' n)) → W p l e Rm s m args below meth c H1 locs1 (cells + mc) (slots + ms) Q (F0 m (pc + 3) ls (v.toList ++ rest))) : W p l e Rm s m args below meth c H locs cells slots Q (F0 m pc ls st0) := nh_callV2 (tys := im_tys cA) (T := qT5) (N := 9) ⟨hx, hb, hml, hown, ht⟩ hM (cwV 0 ht (gd_V wcX5_close hl wiX5_close weX5_close wz5) rfl rfl rfl (by decide +kernel) hR) (im_Kok D cA) hK hK.1 hw hn hg rfl hlen hsz hst hrm hdg hfit kk
theorem kcX5_flush {nm : nh_N} (hl : Cond.methodLink own index yX5_flush ∈ im_ws) (hM : im_M l D cA yX5_flush vX5_flush fr lo mc ms (.ref b :: As) S g I R post) (hx : p.tables.exec = Jvm.exec) (hb : c.code = cc) (hml : c.maxLocals = nL) (ht : ∀ w ∈ im_ws, w.before args s = true) (hown : s.vm.findClass own = some m.cls) (hK : im_K D cA s) (hw : nh_S D im_cl im_sk cA A H0 S g I R H locs) (hn : S nm = some (0, 5)) (hg : g nm = b) (hlen : As.length = 0) (hsz : ls.size = nL) (hst : st0 = As.reverse ++ .ref b :: rest) (hrm : (rest.map fun v => v.category).sum ≤ 8) (hR : fr + 1 ≤ Rm.frames ∧ 8 + (3 + 11) + lo ≤ Rm.locals) (hfit : cells + mc ≤ Rm.cells ∧ slots + ms ≤ Rm.slots) (hdg : decode cc pc = .ok (.invokevirtual index, 3)) (kk : ∀ (v : Option Value) (S' : nh_N → Option nh_C) (g' : nh_N → Nat) (I' : nh_N → Nat → Int32) (R' : nh_N → Nat → Option nh_N) (H1 : Heap) (locs1 : List Loc), post v S' g' I' R' → nh_S D im_cl im_sk cA A H0 S' g' I' R' H1 locs1 → W p l e Rm s m args below meth c H1 locs1 (cells + mc) (slots + ms) Q (F0 m (pc + 3) ls (v.toList ++ rest))) : W p l e Rm s m args below meth c H locs cells slots Q (F0 m pc ls st0) := nh_callV (tys := im_tys cA) (T := qT5) (N := 9) ⟨hx, hb, hml, hown, ht⟩ hM (cwV 0 ht (gd_V wcX5_flush hl wiX5_flush weX5_flush wz5) rfl rfl rfl (by decide +kernel) hR) (im_Kok D cA) hK hK.1 hw hn hg rfl hlen hsz hst hrm hdg hfit kk
theorem kcX5_flush_2 {nm : nh_N} (hl : Cond.methodLink own index yX5_flush ∈ im_ws) (hM : im_M l D cA yX5_flush vX5_flush fr lo mc ms (.ref b :: As) S g I R post) (hx : p.tables.exec = Jvm.exec) (hb : c.code = cc) (hml : c.maxLocals = nL) (ht : ∀ w ∈ im_ws, w.before args s = true) (hown : s.vm.findClass own = some m.cls) (hK : im_K D cA s) (hw : nh_S D im_cl im_sk cA A H0 S g I R H locs) (hn : S nm = some (0, 5)) (hg : g nm = b) (hlen : As.length = 0) (hsz : ls.size = nL) (hst : st0 = As.reverse ++ .ref b :: rest) (hrm : (rest.map fun v => v.category).sum ≤ 8) (hR : fr + 1 ≤ Rm.frames ∧ 8 + (3 + 11) + lo ≤ Rm.locals) (hfit : cells + mc ≤ Rm.cells ∧ slots + ms ≤ Rm.slots) (hdg : decode cc pc = .ok (.invokevirtual index, 3)) (kk : ∀ (v : Option Value) (S' : nh_N → Option nh_C) (g' : nh_N → Nat) (I' : nh_N → Nat → Int32) (R' : nh_N → Nat → Option nh_N) (H1 : Heap) (locs1 : List Loc), post v S' g' I' R' → nh_S D im_cl im_sk cA A H0 S' g' I' R' H1 locs1 → (∀ q, q < H.size → ¬ nh_A S g H.size q → H1[q]? = H[q]?) → (∀ n c, S' n = some c → nh_A S g H.size (g' n)) → W p l e Rm s m args below meth c H1 locs1 (cells + mc) (slots + ms) Q (F0 m (pc + 3) ls (v.toList ++ rest))) : W p l e Rm s m args below meth c H locs cells slots Q (F0 m pc ls st0) := nh_callV2 (tys := im_tys cA) (T := qT5) (N := 9) ⟨hx, hb, hml, hown, ht⟩ hM (cwV 0 ht (gd_V wcX5_flush hl wiX5_flush weX5_flush wz5) rfl rfl rfl (by decide +kernel) hR) (im_Kok D cA) hK hK.1 hw hn hg rfl hlen hsz hst hrm hdg hfit kk
theorem kcX5_cancel {nm : nh_N} (hl : Cond.methodLink own index yX5_cancel ∈ im_ws) (hM : im_M l D cA yX5_cancel vX5_cancel fr lo mc ms (.ref b :: As) S g I R post) (hx : p.tables.exec = Jvm.exec) (hb : c.code = cc) (hml : c.maxLocals = nL) (ht : ∀ w ∈ im_ws, w.before args s = true) (hown : s.vm.findClass own = some m.cls) (hK : im_K D cA s) (hw : nh_S D im_cl im_sk cA A H0 S g I R H locs) (hn : S nm = some (0, 5)) (hg : g nm = b) (hlen : As.length = 1) (hsz : ls.size = nL) (hst : st0 = As.reverse ++ .ref b :: rest) (hrm : (rest.map fun v => v.category).sum ≤ 8) (hR : fr + 1 ≤ Rm.frames ∧ 8 + (3 + 11) + lo ≤ Rm.locals) (hfit : cells + mc ≤ Rm.cells ∧ slots + ms ≤ Rm.slots) (hdg : decode cc pc = .ok (.invokevirtual index, 3)) (kk : ∀ (v : Option Value) (S' : nh_N → Option nh_C) (g' : nh_N → Nat) (I' : nh_N → Nat → Int32) (R' : nh_N → Nat → Option nh_N) (H1 : Heap) (locs1 : List Loc), post v S' g' I' R' → nh_S D im_cl im_sk cA A H0 S' g' I' R' H1 locs1 → W p l e Rm s m args below meth c H1 locs1 (cells + mc) (slots + ms) Q (F0 m (pc + 3) ls (v.toList ++ rest))) : W p l e Rm s m args below meth c H locs cells slots Q (F0 m pc ls st0) := nh_callV (tys := im_tys cA) (T := qT5) (N := 9) ⟨hx, hb, hml, hown, ht⟩ hM (cwV 1 ht (gd_V wcX5_cancel hl wiX5_cancel weX5_cancel wz5) rfl rfl rfl (by decide +kernel) hR) (im_Kok D cA) hK hK.1 hw hn hg rfl hlen hsz hst hrm hdg hfit kk
theorem kcX5_cancel_2 {nm : nh_N} (hl : Cond.methodLink own index yX5_cancel ∈ im_ws) (hM : im_M l D cA yX5_cancel vX5_cancel fr lo mc ms (.ref b :: As) S g I R post) (hx : p.tables.exec = Jvm.exec) (hb : c.code = cc) (hml : c.maxLocals = nL) (ht : ∀ w ∈ im_ws, w.before args s = true) (hown : s.vm.findClass own = some m.cls) (hK : im_K D cA s) (hw : nh_S D im_cl im_sk cA A H0 S g I R H locs) (hn : S nm = some (0, 5)) (hg : g nm = b) (hlen : As.length = 1) (hsz : ls.size = nL) (hst : st0 = As.reverse ++ .ref b :: rest) (hrm : (rest.map fun v => v.category).sum ≤ 8) (hR : fr + 1 ≤ Rm.frames ∧ 8 + (3 + 11) + lo ≤ Rm.locals) (hfit : cells + mc ≤ Rm.cells ∧ slots + ms ≤ Rm.slots) (hdg : decode cc pc = .ok (.invokevirtual index, 3)) (kk : ∀ (v : Option Value) (S' : nh_N → Option nh_C) (g' : nh_N → Nat) (I' : nh_N → Nat → Int32) (R' : nh_N → Nat → Option nh_N) (H1 : Heap) (locs1 : List Loc), post v S' g' I' R' → nh_S D im_cl im_sk cA A H0 S' g' I' R' H1 locs1 → (∀ q, q < H.size → ¬ nh_A S g H.size q → H1[q]? = H[q]?) → (∀ n c, S' n = some c → nh_A S g H.size (g' n)) → W p l e Rm s m args below meth c H1 locs1 (cells + mc) (slots + ms) Q (F0 m (pc + 3) ls (v.toList ++ rest))) : W p l e Rm s m args below meth c H locs cells slots Q (F0 m pc ls st0) := nh_callV2 (tys := im_tys cA) (T := qT5) (N := 9) ⟨hx, hb, hml, hown, ht⟩ hM (cwV 1 ht (gd_V wcX5_cancel hl wiX5_cancel weX5_cancel wz5) rfl rfl rfl (by decide +kernel) hR) (im_Kok D cA) hK hK.1 hw hn hg rfl hlen hsz hst hrm hdg hfit kk
theorem kcX5_placed {nm : nh_N} (hl : Cond.methodLink own index yX5_placed ∈ im_ws) (hM : im_M l D cA yX5_placed vX5_placed fr lo mc ms (.ref b :: As) S g I R post) (hx : p.tables.exec = Jvm.exec) (hb : c.code = cc) (hml : c.maxLocals = nL) (ht : ∀ w ∈ im_ws, w.before args s = true) (hown : s.vm.findClass own = some m.cls) (hK : im_K D cA s) (hw : nh_S D im_cl im_sk cA A H0 S g I R H locs) (hn : S nm = some (0, 5)) (hg : g nm = b) (hlen : As.length = 3) (hsz : ls.size = nL) (hst : st0 = As.reverse ++ .ref b :: rest) (hrm : (rest.map fun v => v.category).sum ≤ 8) (hR : fr + 1 ≤ Rm.frames ∧ 8 + (6 + 11) + lo ≤ Rm.locals) (hfit : cells + mc ≤ Rm.cells ∧ slots + ms ≤ Rm.slots) (hdg : decode cc pc = .ok (.invokevirtual index, 3)) (kk : ∀ (v : Option Value) (S' : nh_N → Option nh_C) (g' : nh_N → Nat) (I' : nh_N → Nat → Int32) (R' : nh_N → Nat → Option nh_N) (H1 : Heap) (locs1 : List Loc), post v S' g' I' R' → nh_S D im_cl im_sk cA A H0 S' g' I' R' H1 locs1 → W p l e Rm s m args below meth c H1 locs1 (cells + mc) (slots + ms) Q (F0 m (pc + 3) ls (v.toList ++ rest))) : W p l e Rm s m args below meth c H locs cells slots Q (F0 m pc ls st0) := nh_callV (tys := im_tys cA) (T := qT5) (N := 9) ⟨hx, hb, hml, hown, ht⟩ hM (cwV 3 ht (gd_V wcX5_placed hl wiX5_placed weX5_placed wz5) rfl rfl rfl (by decide +kernel) hR) (im_Kok D cA) hK hK.1 hw hn hg rfl hlen hsz hst hrm hdg hfit kk
theorem kcX5_placed_2 {nm : nh_N} (hl : Cond.methodLink own index yX5_placed ∈ im_ws) (hM : im_M l D cA yX5_placed vX5_placed fr lo mc ms (.ref b :: As) S g I R post) (hx : p.tables.exec = Jvm.exec) (hb : c.code = cc) (hml : c.maxLocals = nL) (ht : ∀ w ∈ im_ws, w.before args s = true) (hown : s.vm.findClass own = some m.cls) (hK : im_K D cA s) (hw : nh_S D im_cl im_sk cA A H0 S g I R H locs) (hn : S nm = some (0, 5)) (hg : g nm = b) (hlen : As.length = 3) (hsz : ls.size = nL) (hst : st0 = As.reverse ++ .ref b :: rest) (hrm : (rest.map fun v => v.category).sum ≤ 8) (hR : fr + 1 ≤ Rm.frames ∧ 8 + (6 + 11) + lo ≤ Rm.locals) (hfit : cells + mc ≤ Rm.cells ∧ slots + ms ≤ Rm.slots) (hdg : decode cc pc = .ok (.invokevirtual index, 3)) (kk : ∀ (v : Option Value) (S' : nh_N → Option nh_C) (g' : nh_N → Nat) (I' : nh_N → Nat → Int32) (R' : nh_N → Nat → Option nh_N) (H1 : Heap) (locs1 : List Loc), post v S' g' I' R' → nh_S D im_cl im_sk cA A H0 S' g' I' R' H1 locs1 → (∀ q, q < H.size → ¬ nh_A S g H.size q → H1[q]? = H[q]?) → (∀ n c, S' n = some c → nh_A S g H.size (g' n)) → W p l e Rm s m args below meth c H1 locs1 (cells + mc) (slots + ms) Q (F0 m (pc + 3) ls (v.toList ++ rest))) : W p l e Rm s m args below meth c H locs cells slots Q (F0 m pc ls st0) := nh_callV2 (tys := im_tys cA) (T := qT5) (N := 9) ⟨hx, hb, hml, hown, ht⟩ hM (cwV 3 ht (gd_V wcX5_placed hl wiX5_placed weX5_placed wz5) rfl rfl rfl (by decide +kernel) hR) (im_Kok D cA) hK hK.1 hw hn hg rfl hlen hsz hst hrm hdg hfit kk
theorem kcX5_about {nm : nh_N} (hl : Cond.methodLink own index yX5_about ∈ im_ws) (hM : im_M l D cA yX5_about vX5_about fr lo mc ms (.ref b :: As) S g I R post) (hx : p.tables.exec = Jvm.exec) (hb : c.code = cc) (hml : c.maxLocals = nL) (ht : ∀ w ∈ im_ws, w.before args s = true) (hown : s.vm.findClass own = some m.cls) (hK : im_K D cA s) (hw : nh_S D im_cl im_sk cA A H0 S g I R H locs) (hn : S nm = some (0, 5)) (hg : g nm = b) (hlen : As.length = 2) (hsz : ls.size = nL) (hst : st0 = As.reverse ++ .ref b :: rest) (hrm : (rest.map fun v => v.category).sum ≤ 8) (hR : fr + 1 ≤ Rm.frames ∧ 8 + (4 + 11) + lo ≤ Rm.locals) (hfit : cells + mc ≤ Rm.cells ∧ slots + ms ≤ Rm.slots) (hdg : decode cc pc = .ok (.invokevirtual index, 3)) (kk : ∀ (v : Option Value) (S' : nh_N → Option nh_C) (g' : nh_N → Nat) (I' : nh_N → Nat → Int32) (R' : nh_N → Nat → Option nh_N) (H1 : Heap) (locs1 : List Loc), post v S' g' I' R' → nh_S D im_cl im_sk cA A H0 S' g' I' R' H1 locs1 → W p l e Rm s m args below meth c H1 locs1 (cells + mc) (slots + ms) Q (F0 m (pc + 3) ls (v.toList ++ rest))) : W p l e Rm s m args below meth c H locs cells slots Q (F0 m pc ls st0) := nh_callV (tys := im_tys cA) (T := qT5) (N := 9) ⟨hx, hb, hml, hown, ht⟩ hM (cwV 2 ht (gd_V wcX5_about hl wiX5_about weX5_about wz5) rfl rfl rfl (by decide +kernel) hR) (im_Kok D cA) hK hK.1 hw hn hg rfl hlen hsz hst hrm hdg hfit kk
theorem kcX5_about_2 {nm : nh_N} (hl : Cond.methodLink own index yX5_about ∈ im_ws) (hM : im_M l D cA yX5_about vX5_about fr lo mc ms (.ref b :: As) S g I R post) (hx : p.tables.exec = Jvm.exec) (hb : c.code = cc) (hml : c.maxLocals = nL) (ht : ∀ w ∈ im_ws, w.before args s = true) (hown : s.vm.findClass own = some m.cls) (hK : im_K D cA s) (hw : nh_S D im_cl im_sk cA A H0 S g I R H locs) (hn : S nm = some (0, 5)) (hg : g nm = b) (hlen : As.length = 2) (hsz : ls.size = nL) (hst : st0 = As.reverse ++ .ref b :: rest) (hrm : (rest.map fun v => v.category).sum ≤ 8) (hR : fr + 1 ≤ Rm.frames ∧ 8 + (4 + 11) + lo ≤ Rm.locals) (hfit : cells + mc ≤ Rm.cells ∧ slots + ms ≤ Rm.slots) (hdg : decode cc pc = .ok (.invokevirtual index, 3)) (kk : ∀ (v : Option Value) (S' : nh_N → Option nh_C) (g' : nh_N → Nat) (I' : nh_N → Nat → Int32) (R' : nh_N → Nat → Option nh_N) (H1 : Heap) (locs1 : List Loc), post v S' g' I' R' → nh_S D im_cl im_sk cA A H0 S' g' I' R' H1 locs1 → (∀ q, q < H.size → ¬ nh_A S g H.size q → H1[q]? = H[q]?) → (∀ n c, S' n = some c → nh_A S g H.size (g' n)) → W p l e Rm s m args below meth c H1 locs1 (cells + mc) (slots + ms) Q (F0 m (pc + 3) ls (v.toList ++ rest))) : W p l e Rm s m args below meth c H locs cells slots Q (F0 m pc ls st0) := nh_callV2 (tys := im_tys cA) (T := qT5) (N := 9) ⟨hx, hb, hml, hown, ht⟩ hM (cwV 2 ht (gd_V wcX5_about hl wiX5_about weX5_about wz5) rfl rfl rfl (by decide +kernel) hR) (im_Kok D cA) hK hK.1 hw hn hg rfl hlen hsz hst hrm hdg hfit kk
theorem kcX5_held {nm : nh_N} (hl : Cond.methodLink own index yX5_held ∈ im_ws) (hM : im_M l D cA yX5_held vX5_held fr lo mc ms (.ref b :: As) S g I R post) (hx : p.tables.exec = Jvm.exec) (hb : c.code = cc) (hml : c.maxLocals = nL) (ht : ∀ w ∈ im_ws, w.before args s = true) (hown : s.vm.findClass own = some m.cls) (hK : im_K D cA s) (hw : nh_S D im_cl im_sk cA A H0 S g I R H locs) (hn : S nm = some (0, 5)) (hg : g nm = b) (hlen : As.length = 1) (hsz : ls.size = nL) (hst : st0 = As.reverse ++ .ref b :: rest) (hrm : (rest.map fun v => v.category).sum ≤ 8) (hR : fr + 1 ≤ Rm.frames ∧ 8 + (2 + 11) + lo ≤ Rm.locals) (hfit : cells + mc ≤ Rm.cells ∧ slots + ms ≤ Rm.slots) (hdg : decode cc pc = .ok (.invokevirtual index, 3)) (kk : ∀ (v : Option Value) (S' : nh_N → Option nh_C) (g' : nh_N → Nat) (I' : nh_N → Nat → Int32) (R' : nh_N → Nat → Option nh_N) (H1 : Heap) (locs1 : List Loc), post v S' g' I' R' → nh_S D im_cl im_sk cA A H0 S' g' I' R' H1 locs1 → W p l e Rm s m args below meth c H1 locs1 (cells + mc) (slots + ms) Q (F0 m (pc + 3) ls (v.toList ++ rest))) : W p l e Rm s m args below meth c H locs cells slots Q (F0 m pc ls st0) := nh_callV (tys := im_tys cA) (T := qT5) (N := 9) ⟨hx, hb, hml, hown, ht⟩ hM (cwV 1 ht (gd_V wcX5_held hl wiX5_held weX5_held wz5) rfl rfl rfl (by decide +kernel) hR) (im_Kok D cA) hK hK.1 hw hn hg rfl hlen hsz hst hrm hdg hfit kk
theorem kcX5_held_2 {nm : nh_N} (hl : Cond.methodLink own index yX5_held ∈ im_ws) (hM : im_M l D cA yX5_held vX5_held fr lo mc ms (.ref b :: As) S g I R post) (hx : p.tables.exec = Jvm.exec) (hb : c.code = cc) (hml : c.maxLocals = nL) (ht : ∀ w ∈ im_ws, w.before args s = true) (hown : s.vm.findClass own = some m.cls) (hK : im_K D cA s) (hw : nh_S D im_cl im_sk cA A H0 S g I R H locs) (hn : S nm = some (0, 5)) (hg : g nm = b) (hlen : As.length = 1) (hsz : ls.size = nL) (hst : st0 = As.reverse ++ .ref b :: rest) (hrm : (rest.map fun v => v.category).sum ≤ 8) (hR : fr + 1 ≤ Rm.frames ∧ 8 + (2 + 11) + lo ≤ Rm.locals) (hfit : cells + mc ≤ Rm.cells ∧ slots + ms ≤ Rm.slots) (hdg : decode cc pc = .ok (.invokevirtual index, 3)) (kk : ∀ (v : Option Value) (S' : nh_N → Option nh_C) (g' : nh_N → Nat) (I' : nh_N → Nat → Int32) (R' : nh_N → Nat → Option nh_N) (H1 : Heap) (locs1 : List Loc), post v S' g' I' R' → nh_S D im_cl im_sk cA A H0 S' g' I' R' H1 locs1 → (∀ q, q < H.size → ¬ nh_A S g H.size q → H1[q]? = H[q]?) → (∀ n c, S' n = some c → nh_A S g H.size (g' n)) → W p l e Rm s m args below meth c H1 locs1 (cells + mc) (slots + ms) Q (F0 m (pc + 3) ls (v.toList ++ rest))) : W p l e Rm s m args below meth c H locs cells slots Q (F0 m pc ls st0) := nh_callV2 (tys := im_tys cA) (T := qT5) (N := 9) ⟨hx, hb, hml, hown, ht⟩ hM (cwV 1 ht (gd_V wcX5_held hl wiX5_held weX5_held wz5) rfl rfl rfl (by decide +kernel) hR) (im_Kok D cA) hK hK.1 hw hn hg rfl hlen hsz hst hrm hdg hfit kk
theorem kcX5_used {nm : nh_N} (hl : Cond.methodLink own index yX5_used ∈ im_ws) (hM : im_M l D cA yX5_used vX5_used fr lo mc ms (.ref b :: As) S g I R post) (hx : p.tables.exec = Jvm.exec) (hb : c.code = cc) (hml : c.maxLocals = nL) (ht : ∀ w ∈ im_ws, w.before args s = true) (hown : s.vm.findClass own = some m.cls) (hK : im_K D cA s) (hw : nh_S D im_cl im_sk cA A H0 S g I R H locs) (hn : S nm = some (0, 5)) (hg : g nm = b) (hlen : As.length = 2) (hsz : ls.size = nL) (hst : st0 = As.reverse ++ .ref b :: rest) (hrm : (rest.map fun v => v.category).sum ≤ 8) (hR : fr + 1 ≤ Rm.frames ∧ 8 + (5 + 11) + lo ≤ Rm.locals) (hfit : cells + mc ≤ Rm.cells ∧ slots + ms ≤ Rm.slots) (hdg : decode cc pc = .ok (.invokevirtual index, 3)) (kk : ∀ (v : Option Value) (S' : nh_N → Option nh_C) (g' : nh_N → Nat) (I' : nh_N → Nat → Int32) (R' : nh_N → Nat → Option nh_N) (H1 : Heap) (locs1 : List Loc), post v S' g' I' R' → nh_S D im_cl im_sk cA A H0 S' g' I' R' H1 locs1 → W p l e Rm s m args below meth c H1 locs1 (cells + mc) (slots + ms) Q (F0 m (pc + 3) ls (v.toList ++ rest))) : W p l e Rm s m args below meth c H locs cells slots Q (F0 m pc ls st0) := nh_callV (tys := im_tys cA) (T := qT5) (N := 9) ⟨hx, hb, hml, hown, ht⟩ hM (cwV 2 ht (gd_V wcX5_used hl wiX5_used weX5_used wz5) rfl rfl rfl (by decide +kernel) hR) (im_Kok D cA) hK hK.1 hw hn hg rfl hlen hsz hst hrm hdg hfit kk
theorem kcX5_used_2 {nm : nh_N} (hl : Cond.methodLink own index yX5_used ∈ im_ws) (hM : im_M l D cA yX5_used vX5_used fr lo mc ms (.ref b :: As) S g I R post) (hx : p.tables.exec = Jvm.exec) (hb : c.code = cc) (hml : c.maxLocals = nL) (ht : ∀ w ∈ im_ws, w.before args s = true) (hown : s.vm.findClass own = some m.cls) (hK : im_K D cA s) (hw : nh_S D im_cl im_sk cA A H0 S g I R H locs) (hn : S nm = some (0, 5)) (hg : g nm = b) (hlen : As.length = 2) (hsz : ls.size = nL) (hst : st0 = As.reverse ++ .ref b :: rest) (hrm : (rest.map fun v => v.category).sum ≤ 8) (hR : fr + 1 ≤ Rm.frames ∧ 8 + (5 + 11) + lo ≤ Rm.locals) (hfit : cells + mc ≤ Rm.cells ∧ slots + ms ≤ Rm.slots) (hdg : decode cc pc = .ok (.invokevirtual index, 3)) (kk : ∀ (v : Option Value) (S' : nh_N → Option nh_C) (g' : nh_N → Nat) (I' : nh_N → Nat → Int32) (R' : nh_N → Nat → Option nh_N) (H1 : Heap) (locs1 : List Loc), post v S' g' I' R' → nh_S D im_cl im_sk cA A H0 S' g' I' R' H1 locs1 → (∀ q, q < H.size → ¬ nh_A S g H.size q → H1[q]? = H[q]?) → (∀ n c, S' n = some c → nh_A S g H.size (g' n)) → W p l e Rm s m args below meth c H1 locs1 (cells + mc) (slots + ms) Q (F0 m (pc + 3) ls (v.toList ++ rest))) : W p l e Rm s m args below meth c H locs cells slots Q (F0 m pc ls st0) := nh_callV2 (tys := im_tys cA) (T := qT5) (N := 9) ⟨hx, hb, hml, hown, ht⟩ hM (cwV 2 ht (gd_V wcX5_used hl wiX5_used weX5_used wz5) rfl rfl rfl (by decide +kernel) hR) (im_Kok D cA) hK hK.1 hw hn hg rfl hlen hsz hst hrm hdg hfit kk
theorem kcX5_seen {nm : nh_N} (hl : Cond.methodLink own index yX5_seen ∈ im_ws) (hM : im_M l D cA yX5_seen vX5_seen fr lo mc ms (.ref b :: As) S g I R post) (hx : p.tables.exec = Jvm.exec) (hb : c.code = cc) (hml : c.maxLocals = nL) (ht : ∀ w ∈ im_ws, w.before args s = true) (hown : s.vm.findClass own = some m.cls) (hK : im_K D cA s) (hw : nh_S D im_cl im_sk cA A H0 S g I R H locs) (hn : S nm = some (0, 5)) (hg : g nm = b) (hlen : As.length = 3) (hsz : ls.size = nL) (hst : st0 = As.reverse ++ .ref b :: rest) (hrm : (rest.map fun v => v.category).sum ≤ 8) (hR : fr + 1 ≤ Rm.frames ∧ 8 + (5 + 11) + lo ≤ Rm.locals) (hfit : cells + mc ≤ Rm.cells ∧ slots + ms ≤ Rm.slots) (hdg : decode cc pc = .ok (.invokevirtual index, 3)) (kk : ∀ (v : Option Value) (S' : nh_N → Option nh_C) (g' : nh_N → Nat) (I' : nh_N → Nat → Int32) (R' : nh_N → Nat → Option nh_N) (H1 : Heap) (locs1 : List Loc), post v S' g' I' R' → nh_S D im_cl im_sk cA A H0 S' g' I' R' H1 locs1 → W p l e Rm s m args below meth c H1 locs1 (cells + mc) (slots + ms) Q (F0 m (pc + 3) ls (v.toList ++ rest))) : W p l e Rm s m args below meth c H locs cells slots Q (F0 m pc ls st0) := nh_callV (tys := im_tys cA) (T := qT5) (N := 9) ⟨hx, hb, hml, hown, ht⟩ hM (cwV 3 ht (gd_V wcX5_seen hl wiX5_seen weX5_seen wz5) rfl rfl rfl (by decide +kernel) hR) (im_Kok D cA) hK hK.1 hw hn hg rfl hlen hsz hst hrm hdg hfit kk
theorem kcX5_seen_2 {nm : nh_N} (hl : Cond.methodLink own index yX5_seen ∈ im_ws) (hM : im_M l D cA yX5_seen vX5_seen fr lo mc ms (.ref b :: As) S g I R post) (hx : p.tables.exec = Jvm.exec) (hb : c.code = cc) (hml : c.maxLocals = nL) (ht : ∀ w ∈ im_ws, w.before args s = true) (hown : s.vm.findClass own = some m.cls) (hK : im_K D cA s) (hw : nh_S D im_cl im_sk cA A H0 S g I R H locs) (hn : S nm = some (0, 5)) (hg : g nm = b) (hlen : As.length = 3) (hsz : ls.size = nL) (hst : st0 = As.reverse ++ .ref b :: rest) (hrm : (rest.map fun v => v.category).sum ≤ 8) (hR : fr + 1 ≤ Rm.frames ∧ 8 + (5 + 11) + lo ≤ Rm.locals) (hfit : cells + mc ≤ Rm.cells ∧ slots + ms ≤ Rm.slots) (hdg : decode cc pc = .ok (.invokevirtual index, 3)) (kk : ∀ (v : Option Value) (S' : nh_N → Option nh_C) (g' : nh_N → Nat) (I' : nh_N → Nat → Int32) (R' : nh_N → Nat → Option nh_N) (H1 : Heap) (locs1 : List Loc), post v S' g' I' R' → nh_S D im_cl im_sk cA A H0 S' g' I' R' H1 locs1 → (∀ q, q < H.size → ¬ nh_A S g H.size q → H1[q]? = H[q]?) → (∀ n c, S' n = some c → nh_A S g H.size (g' n)) → W p l e Rm s m args below meth c H1 locs1 (cells + mc) (slots + ms) Q (F0 m (pc + 3) ls (v.toList ++ rest))) : W p l e Rm s m args below meth c H locs cells slots Q (F0 m pc ls st0) := nh_callV2 (tys := im_tys cA) (T := qT5) (N := 9) ⟨hx, hb, hml, hown, ht⟩ hM (cwV 3 ht (gd_V wcX5_seen hl wiX5_seen weX5_seen wz5) rfl rfl rfl (by decide +kernel) hR) (im_Kok D cA) hK hK.1 hw hn hg rfl hlen hsz hst hrm hdg hfit kk
theorem kcX5_count {nm : nh_N} (hl : Cond.methodLink own index yX5_count ∈ im_ws) (hM : im_M l D cA yX5_count vX5_count fr lo mc ms (.ref b :: As) S g I R post) (hx : p.tables.exec = Jvm.exec) (hb : c.code = cc) (hml : c.maxLocals = nL) (ht : ∀ w ∈ im_ws, w.before args s = true) (hown : s.vm.findClass own = some m.cls) (hK : im_K D cA s) (hw : nh_S D im_cl im_sk cA A H0 S g I R H locs) (hn : S nm = some (0, 5)) (hg : g nm = b) (hlen : As.length = 1) (hsz : ls.size = nL) (hst : st0 = As.reverse ++ .ref b :: rest) (hrm : (rest.map fun v => v.category).sum ≤ 8) (hR : fr + 1 ≤ Rm.frames ∧ 8 + (2 + 11) + lo ≤ Rm.locals) (hfit : cells + mc ≤ Rm.cells ∧ slots + ms ≤ Rm.slots) (hdg : decode cc pc = .ok (.invokevirtual index, 3)) (kk : ∀ (v : Option Value) (S' : nh_N → Option nh_C) (g' : nh_N → Nat) (I' : nh_N → Nat → Int32) (R' : nh_N → Nat → Option nh_N) (H1 : Heap) (locs1 : List Loc), post v S' g' I' R' → nh_S D im_cl im_sk cA A H0 S' g' I' R' H1 locs1 → W p l e Rm s m args below meth c H1 locs1 (cells + mc) (slots + ms) Q (F0 m (pc + 3) ls (v.toList ++ rest))) : W p l e Rm s m args below meth c H locs cells slots Q (F0 m pc ls st0) := nh_callV (tys := im_tys cA) (T := qT5) (N := 9) ⟨hx, hb, hml, hown, ht⟩ hM (cwV 1 ht (gd_V wcX5_count hl wiX5_count weX5_count wz5) rfl rfl rfl (by decide +kernel) hR) (im_Kok D cA) hK hK.1 hw hn hg rfl hlen hsz hst hrm hdg hfit kk
theorem kcX5_count_2 {nm : nh_N} (hl : Cond.methodLink own index yX5_count ∈ im_ws) (hM : im_M l D cA yX5_count vX5_count fr lo mc ms (.ref b :: As) S g I R post) (hx : p.tables.exec = Jvm.exec) (hb : c.code = cc) (hml : c.maxLocals = nL) (ht : ∀ w ∈ im_ws, w.before args s = true) (hown : s.vm.findClass own = some m.cls) (hK : im_K D cA s) (hw : nh_S D im_cl im_sk cA A H0 S g I R H locs) (hn : S nm = some (0, 5)) (hg : g nm = b) (hlen : As.length = 1) (hsz : ls.size = nL) (hst : st0 = As.reverse ++ .ref b :: rest) (hrm : (rest.map fun v => v.category).sum ≤ 8) (hR : fr + 1 ≤ Rm.frames ∧ 8 + (2 + 11) + lo ≤ Rm.locals) (hfit : cells + mc ≤ Rm.cells ∧ slots + ms ≤ Rm.slots) (hdg : decode cc pc = .ok (.invokevirtual index, 3)) (kk : ∀ (v : Option Value) (S' : nh_N → Option nh_C) (g' : nh_N → Nat) (I' : nh_N → Nat → Int32) (R' : nh_N → Nat → Option nh_N) (H1 : Heap) (locs1 : List Loc), post v S' g' I' R' → nh_S D im_cl im_sk cA A H0 S' g' I' R' H1 locs1 → (∀ q, q < H.size → ¬ nh_A S g H.size q → H1[q]? = H[q]?) → (∀ n c, S' n = some c → nh_A S g H.size (g' n)) → W p l e Rm s m args below meth c H1 locs1 (cells + mc) (slots + ms) Q (F0 m (pc + 3) ls (v.toList ++ rest))) : W p l e Rm s m args below meth c H locs cells slots Q (F0 m pc ls st0) := nh_callV2 (tys := im_tys cA) (T := qT5) (N := 9) ⟨hx, hb, hml, hown, ht⟩ hM (cwV 1 ht (gd_V wcX5_count hl wiX5_count weX5_count wz5) rfl rfl rfl (by decide +kernel) hR) (im_Kok D cA) hK hK.1 hw hn hg rfl hlen hsz hst hrm hdg hfit kk
theorem kcX5_isWithin (hl : Cond.methodLink qR5 index yX5_isWithin ∈ im_ws) (hM : im_M l D cA yX5_isWithin vX5_isWithin fr lo mc ms As S g I R post) (hx : p.tables.exec = Jvm.exec) (hb : c.code = cc) (hml : c.maxLocals = nL) (ht : ∀ w ∈ im_ws, w.before args s = true) (hown : s.vm.findClass qR5 = some m.cls) (hK : im_K D cA s) (hw : nh_S D im_cl im_sk cA A H0 S g I R H locs) (hlen : As.length = 3) (hsz : ls.size = nL) (hst : st0 = As.reverse ++ rest) (hrm : (rest.map fun v => v.category).sum ≤ 8) (hR : fr + 1 ≤ Rm.frames ∧ 8 + (3 + 11) + lo ≤ Rm.locals) (hfit : cells + mc ≤ Rm.cells ∧ slots + ms ≤ Rm.slots) (hdg : decode cc pc = .ok (.invokestatic index, 3)) (kk : ∀ (v : Option Value) (S' : nh_N → Option nh_C) (g' : nh_N → Nat) (I' : nh_N → Nat → Int32) (R' : nh_N → Nat → Option nh_N) (H1 : Heap) (locs1 : List Loc), post v S' g' I' R' → nh_S D im_cl im_sk cA A H0 S' g' I' R' H1 locs1 → W p l e Rm s m args below meth c H1 locs1 (cells + mc) (slots + ms) Q (F0 m (pc + 3) ls (v.toList ++ rest))) : W p l e Rm s m args below meth c H locs cells slots Q (F0 m pc ls st0) := nh_callS ⟨hx, hb, hml, hown, ht⟩ hM (cwS 3 ht (gd_S wcX5_isWithin hl wtX5_isWithin wz5) rfl rfl rfl (by decide +kernel) hR) (im_Kok D cA) hK hw hlen hsz hst hrm hdg hfit kk
theorem kcX5_isPage (hl : Cond.methodLink qR5 index yX5_isPage ∈ im_ws) (hM : im_M l D cA yX5_isPage vX5_isPage fr lo mc ms As S g I R post) (hx : p.tables.exec = Jvm.exec) (hb : c.code = cc) (hml : c.maxLocals = nL) (ht : ∀ w ∈ im_ws, w.before args s = true) (hown : s.vm.findClass qR5 = some m.cls) (hK : im_K D cA s) (hw : nh_S D im_cl im_sk cA A H0 S g I R H locs) (hlen : As.length = 1) (hsz : ls.size = nL) (hst : st0 = As.reverse ++ rest) (hrm : (rest.map fun v => v.category).sum ≤ 8) (hR : fr + 1 ≤ Rm.frames ∧ 8 + (1 + 11) + lo ≤ Rm.locals) (hfit : cells + mc ≤ Rm.cells ∧ slots + ms ≤ Rm.slots) (hdg : decode cc pc = .ok (.invokestatic index, 3)) (kk : ∀ (v : Option Value) (S' : nh_N → Option nh_C) (g' : nh_N → Nat) (I' : nh_N → Nat → Int32) (R' : nh_N → Nat → Option nh_N) (H1 : Heap) (locs1 : List Loc), post v S' g' I' R' → nh_S D im_cl im_sk cA A H0 S' g' I' R' H1 locs1 → W p l e Rm s m args below meth c H1 locs1 (cells + mc) (slots + ms) Q (F0 m (pc + 3) ls (v.toList ++ rest))) : W p l e Rm s m args below meth c H locs cells slots Q (F0 m pc ls st0) := nh_callS ⟨hx, hb, hml, hown, ht⟩ hM (cwS 1 ht (gd_S wcX5_isPage hl wtX5_isPage wz5) rfl rfl rfl (by decide +kernel) hR) (im_Kok D cA) hK hw hlen hsz hst hrm hdg hfit kk
theorem kcX5_isClosed {nm : nh_N} (hl : Cond.methodLink own index yX5_isClosed ∈ im_ws) (hM : im_M l D cA yX5_isClosed vX5_isClosed fr lo mc ms (.ref b :: As) S g I R post) (hx : p.tables.exec = Jvm.exec) (hb : c.code = cc) (hml : c.maxLocals = nL) (ht : ∀ w ∈ im_ws, w.before args s = true) (hown : s.vm.findClass own = some m.cls) (hK : im_K D cA s) (hw : nh_S D im_cl im_sk cA A H0 S g I R H locs) (hn : S nm = some (0, 5)) (hg : g nm = b) (hlen : As.length = 1) (hsz : ls.size = nL) (hst : st0 = As.reverse ++ .ref b :: rest) (hrm : (rest.map fun v => v.category).sum ≤ 8) (hR : fr + 1 ≤ Rm.frames ∧ 8 + (2 + 11) + lo ≤ Rm.locals) (hfit : cells + mc ≤ Rm.cells ∧ slots + ms ≤ Rm.slots) (hdg : decode cc pc = .ok (.invokevirtual index, 3)) (kk : ∀ (v : Option Value) (S' : nh_N → Option nh_C) (g' : nh_N → Nat) (I' : nh_N → Nat → Int32) (R' : nh_N → Nat → Option nh_N) (H1 : Heap) (locs1 : List Loc), post v S' g' I' R' → nh_S D im_cl im_sk cA A H0 S' g' I' R' H1 locs1 → W p l e Rm s m args below meth c H1 locs1 (cells + mc) (slots + ms) Q (F0 m (pc + 3) ls (v.toList ++ rest))) : W p l e Rm s m args below meth c H locs cells slots Q (F0 m pc ls st0) := nh_callV (tys := im_tys cA) (T := qT5) (N := 9) ⟨hx, hb, hml, hown, ht⟩ hM (cwV 1 ht (gd_V wcX5_isClosed hl wiX5_isClosed weX5_isClosed wz5) rfl rfl rfl (by decide +kernel) hR) (im_Kok D cA) hK hK.1 hw hn hg rfl hlen hsz hst hrm hdg hfit kk
theorem kcX5_isClosed_2 {nm : nh_N} (hl : Cond.methodLink own index yX5_isClosed ∈ im_ws) (hM : im_M l D cA yX5_isClosed vX5_isClosed fr lo mc ms (.ref b :: As) S g I R post) (hx : p.tables.exec = Jvm.exec) (hb : c.code = cc) (hml : c.maxLocals = nL) (ht : ∀ w ∈ im_ws, w.before args s = true) (hown : s.vm.findClass own = some m.cls) (hK : im_K D cA s) (hw : nh_S D im_cl im_sk cA A H0 S g I R H locs) (hn : S nm = some (0, 5)) (hg : g nm = b) (hlen : As.length = 1) (hsz : ls.size = nL) (hst : st0 = As.reverse ++ .ref b :: rest) (hrm : (rest.map fun v => v.category).sum ≤ 8) (hR : fr + 1 ≤ Rm.frames ∧ 8 + (2 + 11) + lo ≤ Rm.locals) (hfit : cells + mc ≤ Rm.cells ∧ slots + ms ≤ Rm.slots) (hdg : decode cc pc = .ok (.invokevirtual index, 3)) (kk : ∀ (v : Option Value) (S' : nh_N → Option nh_C) (g' : nh_N → Nat) (I' : nh_N → Nat → Int32) (R' : nh_N → Nat → Option nh_N) (H1 : Heap) (locs1 : List Loc), post v S' g' I' R' → nh_S D im_cl im_sk cA A H0 S' g' I' R' H1 locs1 → (∀ q, q < H.size → ¬ nh_A S g H.size q → H1[q]? = H[q]?) → (∀ n c, S' n = some c → nh_A S g H.size (g' n)) → W p l e Rm s m args below meth c H1 locs1 (cells + mc) (slots + ms) Q (F0 m (pc + 3) ls (v.toList ++ rest))) : W p l e Rm s m args below meth c H locs cells slots Q (F0 m pc ls st0) := nh_callV2 (tys := im_tys cA) (T := qT5) (N := 9) ⟨hx, hb, hml, hown, ht⟩ hM (cwV 1 ht (gd_V wcX5_isClosed hl wiX5_isClosed weX5_isClosed wz5) rfl rfl rfl (by decide +kernel) hR) (im_Kok D cA) hK hK.1 hw hn hg rfl hlen hsz hst hrm hdg hfit kk
theorem kcX5_kindAt {nm : nh_N} (hl : Cond.methodLink own index yX5_kindAt ∈ im_ws) (hM : im_M l D cA yX5_kindAt vX5_kindAt fr lo mc ms (.ref b :: As) S g I R post) (hx : p.tables.exec = Jvm.exec) (hb : c.code = cc) (hml : c.maxLocals = nL) (ht : ∀ w ∈ im_ws, w.before args s = true) (hown : s.vm.findClass own = some m.cls) (hK : im_K D cA s) (hw : nh_S D im_cl im_sk cA A H0 S g I R H locs) (hn : S nm = some (0, 5)) (hg : g nm = b) (hlen : As.length = 1) (hsz : ls.size = nL) (hst : st0 = As.reverse ++ .ref b :: rest) (hrm : (rest.map fun v => v.category).sum ≤ 8) (hR : fr + 1 ≤ Rm.frames ∧ 8 + (2 + 11) + lo ≤ Rm.locals) (hfit : cells + mc ≤ Rm.cells ∧ slots + ms ≤ Rm.slots) (hdg : decode cc pc = .ok (.invokevirtual index, 3)) (kk : ∀ (v : Option Value) (S' : nh_N → Option nh_C) (g' : nh_N → Nat) (I' : nh_N → Nat → Int32) (R' : nh_N → Nat → Option nh_N) (H1 : Heap) (locs1 : List Loc), post v S' g' I' R' → nh_S D im_cl im_sk cA A H0 S' g' I' R' H1 locs1 → W p l e Rm s m args below meth c H1 locs1 (cells + mc) (slots + ms) Q (F0 m (pc + 3) ls (v.toList ++ rest))) : W p l e Rm s m args below meth c H locs cells slots Q (F0 m pc ls st0) := nh_callV (tys := im_tys cA) (T := qT5) (N := 9) ⟨hx, hb, hml, hown, ht⟩ hM (cwV 1 ht (gd_V wcX5_kindAt hl wiX5_kindAt weX5_kindAt wz5) rfl rfl rfl (by decide +kernel) hR) (im_Kok D cA) hK hK.1 hw hn hg rfl hlen hsz hst hrm hdg hfit kk
theorem kcX5_kindAt_2 {nm : nh_N} (hl : Cond.methodLink own index yX5_kindAt ∈ im_ws) (hM : im_M l D cA yX5_kindAt vX5_kindAt fr lo mc ms (.ref b :: As) S g I R post) (hx : p.tables.exec = Jvm.exec) (hb : c.code = cc) (hml : c.maxLocals = nL) (ht : ∀ w ∈ im_ws, w.before args s = true) (hown : s.vm.findClass own = some m.cls) (hK : im_K D cA s) (hw : nh_S D im_cl im_sk cA A H0 S g I R H locs) (hn : S nm = some (0, 5)) (hg : g nm = b) (hlen : As.length = 1) (hsz : ls.size = nL) (hst : st0 = As.reverse ++ .ref b :: rest) (hrm : (rest.map fun v => v.category).sum ≤ 8) (hR : fr + 1 ≤ Rm.frames ∧ 8 + (2 + 11) + lo ≤ Rm.locals) (hfit : cells + mc ≤ Rm.cells ∧ slots + ms ≤ Rm.slots) (hdg : decode cc pc = .ok (.invokevirtual index, 3)) (kk : ∀ (v : Option Value) (S' : nh_N → Option nh_C) (g' : nh_N → Nat) (I' : nh_N → Nat → Int32) (R' : nh_N → Nat → Option nh_N) (H1 : Heap) (locs1 : List Loc), post v S' g' I' R' → nh_S D im_cl im_sk cA A H0 S' g' I' R' H1 locs1 → (∀ q, q < H.size → ¬ nh_A S g H.size q → H1[q]? = H[q]?) → (∀ n c, S' n = some c → nh_A S g H.size (g' n)) → W p l e Rm s m args below meth c H1 locs1 (cells + mc) (slots + ms) Q (F0 m (pc + 3) ls (v.toList ++ rest))) : W p l e Rm s m args below meth c H locs cells slots Q (F0 m pc ls st0) := nh_callV2 (tys := im_tys cA) (T := qT5) (N := 9) ⟨hx, hb, hml, hown, ht⟩ hM (cwV 1 ht (gd_V wcX5_kindAt hl wiX5_kindAt weX5_kindAt wz5) rfl rfl rfl (by decide +kernel) hR) (im_Kok D cA) hK hK.1 hw hn hg rfl hlen hsz hst hrm hdg hfit kk
theorem kcX5_insertAt {nm : nh_N} (hl : Cond.methodLink own index yX5_insertAt ∈ im_ws) (hM : im_M l D cA yX5_insertAt vX5_insertAt fr lo mc ms (.ref b :: As) S g I R post) (hx : p.tables.exec = Jvm.exec) (hb : c.code = cc) (hml : c.maxLocals = nL) (ht : ∀ w ∈ im_ws, w.before args s = true) (hown : s.vm.findClass own = some m.cls) (hK : im_K D cA s) (hw : nh_S D im_cl im_sk cA A H0 S g I R H locs) (hn : S nm = some (0, 5)) (hg : g nm = b) (hlen : As.length = 1) (hsz : ls.size = nL) (hst : st0 = As.reverse ++ .ref b :: rest) (hrm : (rest.map fun v => v.category).sum ≤ 8) (hR : fr + 1 ≤ Rm.frames ∧ 8 + (2 + 11) + lo ≤ Rm.locals) (hfit : cells + mc ≤ Rm.cells ∧ slots + ms ≤ Rm.slots) (hdg : decode cc pc = .ok (.invokevirtual index, 3)) (kk : ∀ (v : Option Value) (S' : nh_N → Option nh_C) (g' : nh_N → Nat) (I' : nh_N → Nat → Int32) (R' : nh_N → Nat → Option nh_N) (H1 : Heap) (locs1 : List Loc), post v S' g' I' R' → nh_S D im_cl im_sk cA A H0 S' g' I' R' H1 locs1 → W p l e Rm s m args below meth c H1 locs1 (cells + mc) (slots + ms) Q (F0 m (pc + 3) ls (v.toList ++ rest))) : W p l e Rm s m args below meth c H locs cells slots Q (F0 m pc ls st0) := nh_callV (tys := im_tys cA) (T := qT5) (N := 9) ⟨hx, hb, hml, hown, ht⟩ hM (cwV 1 ht (gd_V wcX5_insertAt hl wiX5_insertAt weX5_insertAt wz5) rfl rfl rfl (by decide +kernel) hR) (im_Kok D cA) hK hK.1 hw hn hg rfl hlen hsz hst hrm hdg hfit kk
theorem kcX5_insertAt_2 {nm : nh_N} (hl : Cond.methodLink own index yX5_insertAt ∈ im_ws) (hM : im_M l D cA yX5_insertAt vX5_insertAt fr lo mc ms (.ref b :: As) S g I R post) (hx : p.tables.exec = Jvm.exec) (hb : c.code = cc) (hml : c.maxLocals = nL) (ht : ∀ w ∈ im_ws, w.before args s = true) (hown : s.vm.findClass own = some m.cls) (hK : im_K D cA s) (hw : nh_S D im_cl im_sk cA A H0 S g I R H locs) (hn : S nm = some (0, 5)) (hg : g nm = b) (hlen : As.length = 1) (hsz : ls.size = nL) (hst : st0 = As.reverse ++ .ref b :: rest) (hrm : (rest.map fun v => v.category).sum ≤ 8) (hR : fr + 1 ≤ Rm.frames ∧ 8 + (2 + 11) + lo ≤ Rm.locals) (hfit : cells + mc ≤ Rm.cells ∧ slots + ms ≤ Rm.slots) (hdg : decode cc pc = .ok (.invokevirtual index, 3)) (kk : ∀ (v : Option Value) (S' : nh_N → Option nh_C) (g' : nh_N → Nat) (I' : nh_N → Nat → Int32) (R' : nh_N → Nat → Option nh_N) (H1 : Heap) (locs1 : List Loc), post v S' g' I' R' → nh_S D im_cl im_sk cA A H0 S' g' I' R' H1 locs1 → (∀ q, q < H.size → ¬ nh_A S g H.size q → H1[q]? = H[q]?) → (∀ n c, S' n = some c → nh_A S g H.size (g' n)) → W p l e Rm s m args below meth c H1 locs1 (cells + mc) (slots + ms) Q (F0 m (pc + 3) ls (v.toList ++ rest))) : W p l e Rm s m args below meth c H locs cells slots Q (F0 m pc ls st0) := nh_callV2 (tys := im_tys cA) (T := qT5) (N := 9) ⟨hx, hb, hml, hown, ht⟩ hM (cwV 1 ht (gd_V wcX5_insertAt hl wiX5_insertAt weX5_insertAt wz5) rfl rfl rfl (by decide +kernel) hR) (im_Kok D cA) hK hK.1 hw hn hg rfl hlen hsz hst hrm hdg hfit kk
theorem kcX5_closedPageAt {nm : nh_N} (hl : Cond.methodLink own index yX5_closedPageAt ∈ im_ws) (hM : im_M l D cA yX5_closedPageAt vX5_closedPageAt fr lo mc ms (.ref b :: As) S g I R post) (hx : p.tables.exec = Jvm.exec) (hb : c.code = cc) (hml : c.maxLocals = nL) (ht : ∀ w ∈ im_ws, w.before args s = true) (hown : s.vm.findClass own = some m.cls) (hK : im_K D cA s) (hw : nh_S D im_cl im_sk cA A H0 S g I R H locs) (hn : S nm = some (0, 5)) (hg : g nm = b) (hlen : As.length = 1) (hsz : ls.size = nL) (hst : st0 = As.reverse ++ .ref b :: rest) (hrm : (rest.map fun v => v.category).sum ≤ 8) (hR : fr + 1 ≤ Rm.frames ∧ 8 + (2 + 11) + lo ≤ Rm.locals) (hfit : cells + mc ≤ Rm.cells ∧ slots + ms ≤ Rm.slots) (hdg : decode cc pc = .ok (.invokevirtual index, 3)) (kk : ∀ (v : Option Value) (S' : nh_N → Option nh_C) (g' : nh_N → Nat) (I' : nh_N → Nat → Int32) (R' : nh_N → Nat → Option nh_N) (H1 : Heap) (locs1 : List Loc), post v S' g' I' R' → nh_S D im_cl im_sk cA A H0 S' g' I' R' H1 locs1 → W p l e Rm s m args below meth c H1 locs1 (cells + mc) (slots + ms) Q (F0 m (pc + 3) ls (v.toList ++ rest))) : W p l e Rm s m args below meth c H locs cells slots Q (F0 m pc ls st0) := nh_callV (tys := im_tys cA) (T := qT5) (N := 9) ⟨hx, hb, hml, hown, ht⟩ hM (cwV 1 ht (gd_V wcX5_closedPageAt hl wiX5_closedPageAt weX5_closedPageAt wz5) rfl rfl rfl (by decide +kernel) hR) (im_Kok D cA) hK hK.1 hw hn hg rfl hlen hsz hst hrm hdg hfit kk
theorem kcX5_closedPageAt_2 {nm : nh_N} (hl : Cond.methodLink own index yX5_closedPageAt ∈ im_ws) (hM : im_M l D cA yX5_closedPageAt vX5_closedPageAt fr lo mc ms (.ref b :: As) S g I R post) (hx : p.tables.exec = Jvm.exec) (hb : c.code = cc) (hml : c.maxLocals = nL) (ht : ∀ w ∈ im_ws, w.before args s = true) (hown : s.vm.findClass own = some m.cls) (hK : im_K D cA s) (hw : nh_S D im_cl im_sk cA A H0 S g I R H locs) (hn : S nm = some (0, 5)) (hg : g nm = b) (hlen : As.length = 1) (hsz : ls.size = nL) (hst : st0 = As.reverse ++ .ref b :: rest) (hrm : (rest.map fun v => v.category).sum ≤ 8) (hR : fr + 1 ≤ Rm.frames ∧ 8 + (2 + 11) + lo ≤ Rm.locals) (hfit : cells + mc ≤ Rm.cells ∧ slots + ms ≤ Rm.slots) (hdg : decode cc pc = .ok (.invokevirtual index, 3)) (kk : ∀ (v : Option Value) (S' : nh_N → Option nh_C) (g' : nh_N → Nat) (I' : nh_N → Nat → Int32) (R' : nh_N → Nat → Option nh_N) (H1 : Heap) (locs1 : List Loc), post v S' g' I' R' → nh_S D im_cl im_sk cA A H0 S' g' I' R' H1 locs1 → (∀ q, q < H.size → ¬ nh_A S g H.size q → H1[q]? = H[q]?) → (∀ n c, S' n = some c → nh_A S g H.size (g' n)) → W p l e Rm s m args below meth c H1 locs1 (cells + mc) (slots + ms) Q (F0 m (pc + 3) ls (v.toList ++ rest))) : W p l e Rm s m args below meth c H locs cells slots Q (F0 m pc ls st0) := nh_callV2 (tys := im_tys cA) (T := qT5) (N := 9) ⟨hx, hb, hml, hown, ht⟩ hM (cwV 1 ht (gd_V wcX5_closedPageAt hl wiX5_closedPageAt weX5_closedPageAt wz5) rfl rfl rfl (by decide +kernel) hR) (im_Kok D cA) hK hK.1 hw hn hg rfl hlen hsz hst hrm hdg hfit kk
theorem kcX5_closeNextPage {nm : nh_N} (hl : Cond.methodLink own index yX5_closeNextPage ∈ im_ws) (hM : im_M l D cA yX5_closeNextPage vX5_closeNextPage fr lo mc ms (.ref b :: As) S g I R post) (hx : p.tables.exec = Jvm.exec) (hb : c.code = cc) (hml : c.maxLocals = nL) (ht : ∀ w ∈ im_ws, w.before args s = true) (hown : s.vm.findClass own = some m.cls) (hK : im_K D cA s) (hw : nh_S D im_cl im_sk cA A H0 S g I R H locs) (hn : S nm = some (0, 5)) (hg : g nm = b) (hlen : As.length = 0) (hsz : ls.size = nL) (hst : st0 = As.reverse ++ .ref b :: rest) (hrm : (rest.map fun v => v.category).sum ≤ 8) (hR : fr + 1 ≤ Rm.frames ∧ 8 + (2 + 11) + lo ≤ Rm.locals) (hfit : cells + mc ≤ Rm.cells ∧ slots + ms ≤ Rm.slots) (hdg : decode cc pc = .ok (.invokevirtual index, 3)) (kk : ∀ (v : Option Value) (S' : nh_N → Option nh_C) (g' : nh_N → Nat) (I' : nh_N → Nat → Int32) (R' : nh_N → Nat → Option nh_N) (H1 : Heap) (locs1 : List Loc), post v S' g' I' R' → nh_S D im_cl im_sk cA A H0 S' g' I' R' H1 locs1 → W p l e Rm s m args below meth c H1 locs1 (cells + mc) (slots + ms) Q (F0 m (pc + 3) ls (v.toList ++ rest))) : W p l e Rm s m args below meth c H locs cells slots Q (F0 m pc ls st0) := nh_callV (tys := im_tys cA) (T := qT5) (N := 9) ⟨hx, hb, hml, hown, ht⟩ hM (cwV 0 ht (gd_V wcX5_closeNextPage hl wiX5_closeNextPage weX5_closeNextPage wz5) rfl rfl rfl (by decide +kernel) hR) (im_Kok D cA) hK hK.1 hw hn hg rfl hlen hsz hst hrm hdg hfit kk
theorem kcX5_closeNextPage_2 {nm : nh_N} (hl : Cond.methodLink own index yX5_closeNextPage ∈ im_ws) (hM : im_M l D cA yX5_closeNextPage vX5_closeNextPage fr lo mc ms (.ref b :: As) S g I R post) (hx : p.tables.exec = Jvm.exec) (hb : c.code = cc) (hml : c.maxLocals = nL) (ht : ∀ w ∈ im_ws, w.before args s = true) (hown : s.vm.findClass own = some m.cls) (hK : im_K D cA s) (hw : nh_S D im_cl im_sk cA A H0 S g I R H locs) (hn : S nm = some (0, 5)) (hg : g nm = b) (hlen : As.length = 0) (hsz : ls.size = nL) (hst : st0 = As.reverse ++ .ref b :: rest) (hrm : (rest.map fun v => v.category).sum ≤ 8) (hR : fr + 1 ≤ Rm.frames ∧ 8 + (2 + 11) + lo ≤ Rm.locals) (hfit : cells + mc ≤ Rm.cells ∧ slots + ms ≤ Rm.slots) (hdg : decode cc pc = .ok (.invokevirtual index, 3)) (kk : ∀ (v : Option Value) (S' : nh_N → Option nh_C) (g' : nh_N → Nat) (I' : nh_N → Nat → Int32) (R' : nh_N → Nat → Option nh_N) (H1 : Heap) (locs1 : List Loc), post v S' g' I' R' → nh_S D im_cl im_sk cA A H0 S' g' I' R' H1 locs1 → (∀ q, q < H.size → ¬ nh_A S g H.size q → H1[q]? = H[q]?) → (∀ n c, S' n = some c → nh_A S g H.size (g' n)) → W p l e Rm s m args below meth c H1 locs1 (cells + mc) (slots + ms) Q (F0 m (pc + 3) ls (v.toList ++ rest))) : W p l e Rm s m args below meth c H locs cells slots Q (F0 m pc ls st0) := nh_callV2 (tys := im_tys cA) (T := qT5) (N := 9) ⟨hx, hb, hml, hown, ht⟩ hM (cwV 0 ht (gd_V wcX5_closeNextPage hl wiX5_closeNextPage weX5_closeNextPage wz5) rfl rfl rfl (by decide +kernel) hR) (im_Kok D cA) hK hK.1 hw hn hg rfl hlen hsz hst hrm hdg hfit kk
theorem kcX5_goThroughLine {nm : nh_N} (hl : Cond.methodLink own index yX5_goThroughLine ∈ im_ws) (hM : im_M l D cA yX5_goThroughLine vX5_goThroughLine fr lo mc ms (.ref b :: As) S g I R post) (hx : p.tables.exec = Jvm.exec) (hb : c.code = cc) (hml : c.maxLocals = nL) (ht : ∀ w ∈ im_ws, w.before args s = true) (hown : s.vm.findClass own = some m.cls) (hK : im_K D cA s) (hw : nh_S D im_cl im_sk cA A H0 S g I R H locs) (hn : S nm = some (0, 5)) (hg : g nm = b) (hlen : As.length = 1) (hsz : ls.size = nL) (hst : st0 = As.reverse ++ .ref b :: rest) (hrm : (rest.map fun v => v.category).sum ≤ 8) (hR : fr + 1 ≤ Rm.frames ∧ 8 + (6 + 11) + lo ≤ Rm.locals) (hfit : cells + mc ≤ Rm.cells ∧ slots + ms ≤ Rm.slots) (hdg : decode cc pc = .ok (.invokevirtual index, 3)) (kk : ∀ (v : Option Value) (S' : nh_N → Option nh_C) (g' : nh_N → Nat) (I' : nh_N → Nat → Int32) (R' : nh_N → Nat → Option nh_N) (H1 : Heap) (locs1 : List Loc), post v S' g' I' R' → nh_S D im_cl im_sk cA A H0 S' g' I' R' H1 locs1 → W p l e Rm s m args below meth c H1 locs1 (cells + mc) (slots + ms) Q (F0 m (pc + 3) ls (v.toList ++ rest))) : W p l e Rm s m args below meth c H locs cells slots Q (F0 m pc ls st0) := nh_callV (tys := im_tys cA) (T := qT5) (N := 9) ⟨hx, hb, hml, hown, ht⟩ hM (cwV 1 ht (gd_V wcX5_goThroughLine hl wiX5_goThroughLine weX5_goThroughLine wz5) rfl rfl rfl (by decide +kernel) hR) (im_Kok D cA) hK hK.1 hw hn hg rfl hlen hsz hst hrm hdg hfit kk
theorem kcX5_goThroughLine_2 {nm : nh_N} (hl : Cond.methodLink own index yX5_goThroughLine ∈ im_ws) (hM : im_M l D cA yX5_goThroughLine vX5_goThroughLine fr lo mc ms (.ref b :: As) S g I R post) (hx : p.tables.exec = Jvm.exec) (hb : c.code = cc) (hml : c.maxLocals = nL) (ht : ∀ w ∈ im_ws, w.before args s = true) (hown : s.vm.findClass own = some m.cls) (hK : im_K D cA s) (hw : nh_S D im_cl im_sk cA A H0 S g I R H locs) (hn : S nm = some (0, 5)) (hg : g nm = b) (hlen : As.length = 1) (hsz : ls.size = nL) (hst : st0 = As.reverse ++ .ref b :: rest) (hrm : (rest.map fun v => v.category).sum ≤ 8) (hR : fr + 1 ≤ Rm.frames ∧ 8 + (6 + 11) + lo ≤ Rm.locals) (hfit : cells + mc ≤ Rm.cells ∧ slots + ms ≤ Rm.slots) (hdg : decode cc pc = .ok (.invokevirtual index, 3)) (kk : ∀ (v : Option Value) (S' : nh_N → Option nh_C) (g' : nh_N → Nat) (I' : nh_N → Nat → Int32) (R' : nh_N → Nat → Option nh_N) (H1 : Heap) (locs1 : List Loc), post v S' g' I' R' → nh_S D im_cl im_sk cA A H0 S' g' I' R' H1 locs1 → (∀ q, q < H.size → ¬ nh_A S g H.size q → H1[q]? = H[q]?) → (∀ n c, S' n = some c → nh_A S g H.size (g' n)) → W p l e Rm s m args below meth c H1 locs1 (cells + mc) (slots + ms) Q (F0 m (pc + 3) ls (v.toList ++ rest))) : W p l e Rm s m args below meth c H locs cells slots Q (F0 m pc ls st0) := nh_callV2 (tys := im_tys cA) (T := qT5) (N := 9) ⟨hx, hb, hml, hown, ht⟩ hM (cwV 1 ht (gd_V wcX5_goThroughLine hl wiX5_goThroughLine weX5_goThroughLine wz5) rfl rfl rfl (by decide +kernel) hR) (im_Kok D cA) hK hK.1 hw hn hg rfl hlen hsz hst hrm hdg hfit kk
theorem kcX5_lineUpInsertsOf {nm : nh_N} (hl : Cond.methodLink own index yX5_lineUpInsertsOf ∈ im_ws) (hM : im_M l D cA yX5_lineUpInsertsOf vX5_lineUpInsertsOf fr lo mc ms (.ref b :: As) S g I R post) (hx : p.tables.exec = Jvm.exec) (hb : c.code = cc) (hml : c.maxLocals = nL) (ht : ∀ w ∈ im_ws, w.before args s = true) (hown : s.vm.findClass own = some m.cls) (hK : im_K D cA s) (hw : nh_S D im_cl im_sk cA A H0 S g I R H locs) (hn : S nm = some (0, 5)) (hg : g nm = b) (hlen : As.length = 1) (hsz : ls.size = nL) (hst : st0 = As.reverse ++ .ref b :: rest) (hrm : (rest.map fun v => v.category).sum ≤ 8) (hR : fr + 1 ≤ Rm.frames ∧ 8 + (4 + 11) + lo ≤ Rm.locals) (hfit : cells + mc ≤ Rm.cells ∧ slots + ms ≤ Rm.slots) (hdg : decode cc pc = .ok (.invokevirtual index, 3)) (kk : ∀ (v : Option Value) (S' : nh_N → Option nh_C) (g' : nh_N → Nat) (I' : nh_N → Nat → Int32) (R' : nh_N → Nat → Option nh_N) (H1 : Heap) (locs1 : List Loc), post v S' g' I' R' → nh_S D im_cl im_sk cA A H0 S' g' I' R' H1 locs1 → W p l e Rm s m args below meth c H1 locs1 (cells + mc) (slots + ms) Q (F0 m (pc + 3) ls (v.toList ++ rest))) : W p l e Rm s m args below meth c H locs cells slots Q (F0 m pc ls st0) := nh_callV (tys := im_tys cA) (T := qT5) (N := 9) ⟨hx, hb, hml, hown, ht⟩ hM (cwV 1 ht (gd_V wcX5_lineUpInsertsOf hl wiX5_lineUpInsertsOf weX5_lineUpInsertsOf wz5) rfl rfl rfl (by decide +kernel) hR) (im_Kok D cA) hK hK.1 hw hn hg rfl hlen hsz hst hrm hdg hfit kk
theorem kcX5_lineUpInsertsOf_2 {nm : nh_N} (hl : Cond.methodLink own index yX5_lineUpInsertsOf ∈ im_ws) (hM : im_M l D cA yX5_lineUpInsertsOf vX5_lineUpInsertsOf fr lo mc ms (.ref b :: As) S g I R post) (hx : p.tables.exec = Jvm.exec) (hb : c.code = cc) (hml : c.maxLocals = nL) (ht : ∀ w ∈ im_ws, w.before args s = true) (hown : s.vm.findClass own = some m.cls) (hK : im_K D cA s) (hw : nh_S D im_cl im_sk cA A H0 S g I R H locs) (hn : S nm = some (0, 5)) (hg : g nm = b) (hlen : As.length = 1) (hsz : ls.size = nL) (hst : st0 = As.reverse ++ .ref b :: rest) (hrm : (rest.map fun v => v.category).sum ≤ 8) (hR : fr + 1 ≤ Rm.frames ∧ 8 + (4 + 11) + lo ≤ Rm.locals) (hfit : cells + mc ≤ Rm.cells ∧ slots + ms ≤ Rm.slots) (hdg : decode cc pc = .ok (.invokevirtual index, 3)) (kk : ∀ (v : Option Value) (S' : nh_N → Option nh_C) (g' : nh_N → Nat) (I' : nh_N → Nat → Int32) (R' : nh_N → Nat → Option nh_N) (H1 : Heap) (locs1 : List Loc), post v S' g' I' R' → nh_S D im_cl im_sk cA A H0 S' g' I' R' H1 locs1 → (∀ q, q < H.size → ¬ nh_A S g H.size q → H1[q]? = H[q]?) → (∀ n c, S' n = some c → nh_A S g H.size (g' n)) → W p l e Rm s m args below meth c H1 locs1 (cells + mc) (slots + ms) Q (F0 m (pc + 3) ls (v.toList ++ rest))) : W p l e Rm s m args below meth c H locs cells slots Q (F0 m pc ls st0) := nh_callV2 (tys := im_tys cA) (T := qT5) (N := 9) ⟨hx, hb, hml, hown, ht⟩ hM (cwV 1 ht (gd_V wcX5_lineUpInsertsOf hl wiX5_lineUpInsertsOf weX5_lineUpInsertsOf wz5) rfl rfl rfl (by decide +kernel) hR) (im_Kok D cA) hK hK.1 hw hn hg rfl hlen hsz hst hrm hdg hfit kk
theorem kcX5_startPageInKinds {nm : nh_N} (hl : Cond.methodLink own index yX5_startPageInKinds ∈ im_ws) (hM : im_M l D cA yX5_startPageInKinds vX5_startPageInKinds fr lo mc ms (.ref b :: As) S g I R post) (hx : p.tables.exec = Jvm.exec) (hb : c.code = cc) (hml : c.maxLocals = nL) (ht : ∀ w ∈ im_ws, w.before args s = true) (hown : s.vm.findClass own = some m.cls) (hK : im_K D cA s) (hw : nh_S D im_cl im_sk cA A H0 S g I R H locs) (hn : S nm = some (0, 5)) (hg : g nm = b) (hlen : As.length = 0) (hsz : ls.size = nL) (hst : st0 = As.reverse ++ .ref b :: rest) (hrm : (rest.map fun v => v.category).sum ≤ 8) (hR : fr + 1 ≤ Rm.frames ∧ 8 + (3 + 11) + lo ≤ Rm.locals) (hfit : cells + mc ≤ Rm.cells ∧ slots + ms ≤ Rm.slots) (hdg : decode cc pc = .ok (.invokevirtual index, 3)) (kk : ∀ (v : Option Value) (S' : nh_N → Option nh_C) (g' : nh_N → Nat) (I' : nh_N → Nat → Int32) (R' : nh_N → Nat → Option nh_N) (H1 : Heap) (locs1 : List Loc), post v S' g' I' R' → nh_S D im_cl im_sk cA A H0 S' g' I' R' H1 locs1 → W p l e Rm s m args below meth c H1 locs1 (cells + mc) (slots + ms) Q (F0 m (pc + 3) ls (v.toList ++ rest))) : W p l e Rm s m args below meth c H locs cells slots Q (F0 m pc ls st0) := nh_callV (tys := im_tys cA) (T := qT5) (N := 9) ⟨hx, hb, hml, hown, ht⟩ hM (cwV 0 ht (gd_V wcX5_startPageInKinds hl wiX5_startPageInKinds weX5_startPageInKinds wz5) rfl rfl rfl (by decide +kernel) hR) (im_Kok D cA) hK hK.1 hw hn hg rfl hlen hsz hst hrm hdg hfit kk
theorem kcX5_startPageInKinds_2 {nm : nh_N} (hl : Cond.methodLink own index yX5_startPageInKinds ∈ im_ws) (hM : im_M l D cA yX5_startPageInKinds vX5_startPageInKinds fr lo mc ms (.ref b :: As) S g I R post) (hx : p.tables.exec = Jvm.exec) (hb : c.code = cc) (hml : c.maxLocals = nL) (ht : ∀ w ∈ im_ws, w.before args s = true) (hown : s.vm.findClass own = some m.cls) (hK : im_K D cA s) (hw : nh_S D im_cl im_sk cA A H0 S g I R H locs) (hn : S nm = some (0, 5)) (hg : g nm = b) (hlen : As.length = 0) (hsz : ls.size = nL) (hst : st0 = As.reverse ++ .ref b :: rest) (hrm : (rest.map fun v => v.category).sum ≤ 8) (hR : fr + 1 ≤ Rm.frames ∧ 8 + (3 + 11) + lo ≤ Rm.locals) (hfit : cells + mc ≤ Rm.cells ∧ slots + ms ≤ Rm.slots) (hdg : decode cc pc = .ok (.invokevirtual index, 3)) (kk : ∀ (v : Option Value) (S' : nh_N → Option nh_C) (g' : nh_N → Nat) (I' : nh_N → Nat → Int32) (R' : nh_N → Nat → Option nh_N) (H1 : Heap) (locs1 : List Loc), post v S' g' I' R' → nh_S D im_cl im_sk cA A H0 S' g' I' R' H1 locs1 → (∀ q, q < H.size → ¬ nh_A S g H.size q → H1[q]? = H[q]?) → (∀ n c, S' n = some c → nh_A S g H.size (g' n)) → W p l e Rm s m args below meth c H1 locs1 (cells + mc) (slots + ms) Q (F0 m (pc + 3) ls (v.toList ++ rest))) : W p l e Rm s m args below meth c H locs cells slots Q (F0 m pc ls st0) := nh_callV2 (tys := im_tys cA) (T := qT5) (N := 9) ⟨hx, hb, hml, hown, ht⟩ hM (cwV 0 ht (gd_V wcX5_startPageInKinds hl wiX5_startPageInKinds weX5_startPageInKinds wz5) rfl rfl rfl (by decide +kernel) hR) (im_Kok D cA) hK hK.1 hw hn hg rfl hlen hsz hst hrm hdg hfit kk
theorem kcX5_goThrough {nm : nh_N} (hl : Cond.methodLink own index yX5_goThrough ∈ im_ws) (hM : im_M l D cA yX5_goThrough vX5_goThrough fr lo mc ms (.ref b :: As) S g I R post) (hx : p.tables.exec = Jvm.exec) (hb : c.code = cc) (hml : c.maxLocals = nL) (ht : ∀ w ∈ im_ws, w.before args s = true) (hown : s.vm.findClass own = some m.cls) (hK : im_K D cA s) (hw : nh_S D im_cl im_sk cA A H0 S g I R H locs) (hn : S nm = some (0, 5)) (hg : g nm = b) (hlen : As.length = 2) (hsz : ls.size = nL) (hst : st0 = As.reverse ++ .ref b :: rest) (hrm : (rest.map fun v => v.category).sum ≤ 8) (hR : fr + 1 ≤ Rm.frames ∧ 8 + (5 + 11) + lo ≤ Rm.locals) (hfit : cells + mc ≤ Rm.cells ∧ slots + ms ≤ Rm.slots) (hdg : decode cc pc = .ok (.invokevirtual index, 3)) (kk : ∀ (v : Option Value) (S' : nh_N → Option nh_C) (g' : nh_N → Nat) (I' : nh_N → Nat → Int32) (R' : nh_N → Nat → Option nh_N) (H1 : Heap) (locs1 : List Loc), post v S' g' I' R' → nh_S D im_cl im_sk cA A H0 S' g' I' R' H1 locs1 → W p l e Rm s m args below meth c H1 locs1 (cells + mc) (slots + ms) Q (F0 m (pc + 3) ls (v.toList ++ rest))) : W p l e Rm s m args below meth c H locs cells slots Q (F0 m pc ls st0) := nh_callV (tys := im_tys cA) (T := qT5) (N := 9) ⟨hx, hb, hml, hown, ht⟩ hM (cwV 2 ht (gd_V wcX5_goThrough hl wiX5_goThrough weX5_goThrough wz5) rfl rfl rfl (by decide +kernel) hR) (im_Kok D cA) hK hK.1 hw hn hg rfl hlen hsz hst hrm hdg hfit kk
theorem kcX5_goThrough_2 {nm : nh_N} (hl : Cond.methodLink own index yX5_goThrough ∈ im_ws) (hM : im_M l D cA yX5_goThrough vX5_goThrough fr lo mc ms (.ref b :: As) S g I R post) (hx : p.tables.exec = Jvm.exec) (hb : c.code = cc) (hml : c.maxLocals = nL) (ht : ∀ w ∈ im_ws, w.before args s = true) (hown : s.vm.findClass own = some m.cls) (hK : im_K D cA s) (hw : nh_S D im_cl im_sk cA A H0 S g I R H locs) (hn : S nm = some (0, 5)) (hg : g nm = b) (hlen : As.length = 2) (hsz : ls.size = nL) (hst : st0 = As.reverse ++ .ref b :: rest) (hrm : (rest.map fun v => v.category).sum ≤ 8) (hR : fr + 1 ≤ Rm.frames ∧ 8 + (5 + 11) + lo ≤ Rm.locals) (hfit : cells + mc ≤ Rm.cells ∧ slots + ms ≤ Rm.slots) (hdg : decode cc pc = .ok (.invokevirtual index, 3)) (kk : ∀ (v : Option Value) (S' : nh_N → Option nh_C) (g' : nh_N → Nat) (I' : nh_N → Nat → Int32) (R' : nh_N → Nat → Option nh_N) (H1 : Heap) (locs1 : List Loc), post v S' g' I' R' → nh_S D im_cl im_sk cA A H0 S' g' I' R' H1 locs1 → (∀ q, q < H.size → ¬ nh_A S g H.size q → H1[q]? = H[q]?) → (∀ n c, S' n = some c → nh_A S g H.size (g' n)) → W p l e Rm s m args below meth c H1 locs1 (cells + mc) (slots + ms) Q (F0 m (pc + 3) ls (v.toList ++ rest))) : W p l e Rm s m args below meth c H locs cells slots Q (F0 m pc ls st0) := nh_callV2 (tys := im_tys cA) (T := qT5) (N := 9) ⟨hx, hb, hml, hown, ht⟩ hM (cwV 2 ht (gd_V wcX5_goThrough hl wiX5_goThrough weX5_goThrough wz5) rfl rfl rfl (by decide +kernel) hR) (im_Kok D cA) hK hK.1 hw hn hg rfl hlen hsz hst hrm hdg hfit kk
theorem kcX5_freeOn {nm : nh_N} (hl : Cond.methodLink own index yX5_freeOn ∈ im_ws) (hM : im_M l D cA yX5_freeOn vX5_freeOn fr lo mc ms (.ref b :: As) S g I R post) (hx : p.tables.exec = Jvm.exec) (hb : c.code = cc) (hml : c.maxLocals = nL) (ht : ∀ w ∈ im_ws, w.before args s = true) (hown : s.vm.findClass own = some m.cls) (hK : im_K D cA s) (hw : nh_S D im_cl im_sk cA A H0 S g I R H locs) (hn : S nm = some (0, 5)) (hg : g nm = b) (hlen : As.length = 2) (hsz : ls.size = nL) (hst : st0 = As.reverse ++ .ref b :: rest) (hrm : (rest.map fun v => v.category).sum ≤ 8) (hR : fr + 1 ≤ Rm.frames ∧ 8 + (5 + 11) + lo ≤ Rm.locals) (hfit : cells + mc ≤ Rm.cells ∧ slots + ms ≤ Rm.slots) (hdg : decode cc pc = .ok (.invokevirtual index, 3)) (kk : ∀ (v : Option Value) (S' : nh_N → Option nh_C) (g' : nh_N → Nat) (I' : nh_N → Nat → Int32) (R' : nh_N → Nat → Option nh_N) (H1 : Heap) (locs1 : List Loc), post v S' g' I' R' → nh_S D im_cl im_sk cA A H0 S' g' I' R' H1 locs1 → W p l e Rm s m args below meth c H1 locs1 (cells + mc) (slots + ms) Q (F0 m (pc + 3) ls (v.toList ++ rest))) : W p l e Rm s m args below meth c H locs cells slots Q (F0 m pc ls st0) := nh_callV (tys := im_tys cA) (T := qT5) (N := 9) ⟨hx, hb, hml, hown, ht⟩ hM (cwV 2 ht (gd_V wcX5_freeOn hl wiX5_freeOn weX5_freeOn wz5) rfl rfl rfl (by decide +kernel) hR) (im_Kok D cA) hK hK.1 hw hn hg rfl hlen hsz hst hrm hdg hfit kk
theorem kcX5_freeOn_2 {nm : nh_N} (hl : Cond.methodLink own index yX5_freeOn ∈ im_ws) (hM : im_M l D cA yX5_freeOn vX5_freeOn fr lo mc ms (.ref b :: As) S g I R post) (hx : p.tables.exec = Jvm.exec) (hb : c.code = cc) (hml : c.maxLocals = nL) (ht : ∀ w ∈ im_ws, w.before args s = true) (hown : s.vm.findClass own = some m.cls) (hK : im_K D cA s) (hw : nh_S D im_cl im_sk cA A H0 S g I R H locs) (hn : S nm = some (0, 5)) (hg : g nm = b) (hlen : As.length = 2) (hsz : ls.size = nL) (hst : st0 = As.reverse ++ .ref b :: rest) (hrm : (rest.map fun v => v.category).sum ≤ 8) (hR : fr + 1 ≤ Rm.frames ∧ 8 + (5 + 11) + lo ≤ Rm.locals) (hfit : cells + mc ≤ Rm.cells ∧ slots + ms ≤ Rm.slots) (hdg : decode cc pc = .ok (.invokevirtual index, 3)) (kk : ∀ (v : Option Value) (S' : nh_N → Option nh_C) (g' : nh_N → Nat) (I' : nh_N → Nat → Int32) (R' : nh_N → Nat → Option nh_N) (H1 : Heap) (locs1 : List Loc), post v S' g' I' R' → nh_S D im_cl im_sk cA A H0 S' g' I' R' H1 locs1 → (∀ q, q < H.size → ¬ nh_A S g H.size q → H1[q]? = H[q]?) → (∀ n c, S' n = some c → nh_A S g H.size (g' n)) → W p l e Rm s m args below meth c H1 locs1 (cells + mc) (slots + ms) Q (F0 m (pc + 3) ls (v.toList ++ rest))) : W p l e Rm s m args below meth c H locs cells slots Q (F0 m pc ls st0) := nh_callV2 (tys := im_tys cA) (T := qT5) (N := 9) ⟨hx, hb, hml, hown, ht⟩ hM (cwV 2 ht (gd_V wcX5_freeOn hl wiX5_freeOn weX5_freeOn wz5) rfl rfl rfl (by decide +kernel) hR) (im_Kok D cA) hK hK.1 hw hn hg rfl hlen hsz hst hrm hdg hfit kk
theorem kcX6_init (hl : Cond.methodLink own index yX6_init ∈ im_ws) (hM : im_M l D cA yX6_init vX6_init fr lo mc ms (.ref b :: As) S g I R post) (hx : p.tables.exec = Jvm.exec) (hb : c.code = cc) (hml : c.maxLocals = nL) (ht : ∀ w ∈ im_ws, w.before args s = true) (hown : s.vm.findClass own = some m.cls) (hK : im_K D cA s) (hw : nh_S D im_cl im_sk cA A H0 S g I R H locs) (hlen : As.length = 1) (hsz : ls.size = nL) (hst : st0 = As.reverse ++ .ref b :: rest) (hrm : (rest.map fun v => v.category).sum ≤ 8) (hR : fr + 1 ≤ Rm.frames ∧ 8 + (2 + 11) + lo ≤ Rm.locals) (hfit : cells + mc ≤ Rm.cells ∧ slots + ms ≤ Rm.slots) (hdg : decode cc pc = .ok (.invokespecial index, 3)) (kk : ∀ (v : Option Value) (S' : nh_N → Option nh_C) (g' : nh_N → Nat) (I' : nh_N → Nat → Int32) (R' : nh_N → Nat → Option nh_N) (H1 : Heap) (locs1 : List Loc), post v S' g' I' R' → nh_S D im_cl im_sk cA A H0 S' g' I' R' H1 locs1 → (∀ q, q < H.size → ¬ nh_A S g H.size q → H1[q]? = H[q]?) → (∀ n c, S' n = some c → nh_A S g H.size (g' n)) → W p l e Rm s m args below meth c H1 locs1 (cells + mc) (slots + ms) Q (F0 m (pc + 3) ls (v.toList ++ rest))) : W p l e Rm s m args below meth c H locs cells slots Q (F0 m pc ls st0) := nh_callI ⟨hx, hb, hml, hown, ht⟩ hM (cwI 1 ht (gd_ws wcX6_init) rfl rfl rfl (ht _ wz6) (ht _ hl) (ht _ wiX6_init) rfl (by decide +kernel) hR) (im_Kok D cA) hK hw hlen hsz hst hrm hdg hfit kk
theorem kcX6_in (hl : Cond.methodLink qR6 index yX6_in ∈ im_ws) (hM : im_M l D cA yX6_in vX6_in fr lo mc ms As S g I R post) (hx : p.tables.exec = Jvm.exec) (hb : c.code = cc) (hml : c.maxLocals = nL) (ht : ∀ w ∈ im_ws, w.before args s = true) (hown : s.vm.findClass qR6 = some m.cls) (hK : im_K D cA s) (hw : nh_S D im_cl im_sk cA A H0 S g I R H locs) (hlen : As.length = 3) (hsz : ls.size = nL) (hst : st0 = As.reverse ++ rest) (hrm : (rest.map fun v => v.category).sum ≤ 8) (hR : fr + 1 ≤ Rm.frames ∧ 8 + (3 + 11) + lo ≤ Rm.locals) (hfit : cells + mc ≤ Rm.cells ∧ slots + ms ≤ Rm.slots) (hdg : decode cc pc = .ok (.invokestatic index, 3)) (kk : ∀ (v : Option Value) (S' : nh_N → Option nh_C) (g' : nh_N → Nat) (I' : nh_N → Nat → Int32) (R' : nh_N → Nat → Option nh_N) (H1 : Heap) (locs1 : List Loc), post v S' g' I' R' → nh_S D im_cl im_sk cA A H0 S' g' I' R' H1 locs1 → W p l e Rm s m args below meth c H1 locs1 (cells + mc) (slots + ms) Q (F0 m (pc + 3) ls (v.toList ++ rest))) : W p l e Rm s m args below meth c H locs cells slots Q (F0 m pc ls st0) := nh_callS ⟨hx, hb, hml, hown, ht⟩ hM (cwS 3 ht (gd_S wcX6_in hl wtX6_in wz6) rfl rfl rfl (by decide +kernel) hR) (im_Kok D cA) hK hw hlen hsz hst hrm hdg hfit kk
theorem kcX6_isClass {nm : nh_N} (hl : Cond.methodLink own index yX6_isClass ∈ im_ws) (hM : im_M l D cA yX6_isClass vX6_isClass fr lo mc ms (.ref b :: As) S g I R post) (hx : p.tables.exec = Jvm.exec) (hb : c.code = cc) (hml : c.maxLocals = nL) (ht : ∀ w ∈ im_ws, w.before args s = true) (hown : s.vm.findClass own = some m.cls) (hK : im_K D cA s) (hw : nh_S D im_cl im_sk cA A H0 S g I R H locs) (hn : S nm = some (0, 6)) (hg : g nm = b) (hlen : As.length = 1) (hsz : ls.size = nL) (hst : st0 = As.reverse ++ .ref b :: rest) (hrm : (rest.map fun v => v.category).sum ≤ 8) (hR : fr + 1 ≤ Rm.frames ∧ 8 + (2 + 11) + lo ≤ Rm.locals) (hfit : cells + mc ≤ Rm.cells ∧ slots + ms ≤ Rm.slots) (hdg : decode cc pc = .ok (.invokevirtual index, 3)) (kk : ∀ (v : Option Value) (S' : nh_N → Option nh_C) (g' : nh_N → Nat) (I' : nh_N → Nat → Int32) (R' : nh_N → Nat → Option nh_N) (H1 : Heap) (locs1 : List Loc), post v S' g' I' R' → nh_S D im_cl im_sk cA A H0 S' g' I' R' H1 locs1 → W p l e Rm s m args below meth c H1 locs1 (cells + mc) (slots + ms) Q (F0 m (pc + 3) ls (v.toList ++ rest))) : W p l e Rm s m args below meth c H locs cells slots Q (F0 m pc ls st0) := nh_callV (tys := im_tys cA) (T := qT6) (N := 28) ⟨hx, hb, hml, hown, ht⟩ hM (cwV 1 ht (gd_V wcX6_isClass hl wiX6_isClass weX6_isClass wz6) rfl rfl rfl (by decide +kernel) hR) (im_Kok D cA) hK hK.1 hw hn hg rfl hlen hsz hst hrm hdg hfit kk
theorem kcX6_isClass_2 {nm : nh_N} (hl : Cond.methodLink own index yX6_isClass ∈ im_ws) (hM : im_M l D cA yX6_isClass vX6_isClass fr lo mc ms (.ref b :: As) S g I R post) (hx : p.tables.exec = Jvm.exec) (hb : c.code = cc) (hml : c.maxLocals = nL) (ht : ∀ w ∈ im_ws, w.before args s = true) (hown : s.vm.findClass own = some m.cls) (hK : im_K D cA s) (hw : nh_S D im_cl im_sk cA A H0 S g I R H locs) (hn : S nm = some (0, 6)) (hg : g nm = b) (hlen : As.length = 1) (hsz : ls.size = nL) (hst : st0 = As.reverse ++ .ref b :: rest) (hrm : (rest.map fun v => v.category).sum ≤ 8) (hR : fr + 1 ≤ Rm.frames ∧ 8 + (2 + 11) + lo ≤ Rm.locals) (hfit : cells + mc ≤ Rm.cells ∧ slots + ms ≤ Rm.slots) (hdg : decode cc pc = .ok (.invokevirtual index, 3)) (kk : ∀ (v : Option Value) (S' : nh_N → Option nh_C) (g' : nh_N → Nat) (I' : nh_N → Nat → Int32) (R' : nh_N → Nat → Option nh_N) (H1 : Heap) (locs1 : List Loc), post v S' g' I' R' → nh_S D im_cl im_sk cA A H0 S' g' I' R' H1 locs1 → (∀ q, q < H.size → ¬ nh_A S g H.size q → H1[q]? = H[q]?) → (∀ n c, S' n = some c → nh_A S g H.size (g' n)) → W p l e Rm s m args below meth c H1 locs1 (cells + mc) (slots + ms) Q (F0 m (pc + 3) ls (v.toList ++ rest))) : W p l e Rm s m args below meth c H locs cells slots Q (F0 m pc ls st0) := nh_callV2 (tys := im_tys cA) (T := qT6) (N := 28) ⟨hx, hb, hml, hown, ht⟩ hM (cwV 1 ht (gd_V wcX6_isClass hl wiX6_isClass weX6_isClass wz6) rfl rfl rfl (by decide +kernel) hR) (im_Kok D cA) hK hK.1 hw hn hg rfl hlen hsz hst hrm hdg hfit kk
theorem kcX6_cls {nm : nh_N} (hl : Cond.methodLink own index yX6_cls ∈ im_ws) (hM : im_M l D cA yX6_cls vX6_cls fr lo mc ms (.ref b :: As) S g I R post) (hx : p.tables.exec = Jvm.exec) (hb : c.code = cc) (hml : c.maxLocals = nL) (ht : ∀ w ∈ im_ws, w.before args s = true) (hown : s.vm.findClass own = some m.cls) (hK : im_K D cA s) (hw : nh_S D im_cl im_sk cA A H0 S g I R H locs) (hn : S nm = some (0, 6)) (hg : g nm = b) (hlen : As.length = 3) (hsz : ls.size = nL) (hst : st0 = As.reverse ++ .ref b :: rest) (hrm : (rest.map fun v => v.category).sum ≤ 8) (hR : fr + 1 ≤ Rm.frames ∧ 8 + (4 + 11) + lo ≤ Rm.locals) (hfit : cells + mc ≤ Rm.cells ∧ slots + ms ≤ Rm.slots) (hdg : decode cc pc = .ok (.invokevirtual index, 3)) (kk : ∀ (v : Option Value) (S' : nh_N → Option nh_C) (g' : nh_N → Nat) (I' : nh_N → Nat → Int32) (R' : nh_N → Nat → Option nh_N) (H1 : Heap) (locs1 : List Loc), post v S' g' I' R' → nh_S D im_cl im_sk cA A H0 S' g' I' R' H1 locs1 → W p l e Rm s m args below meth c H1 locs1 (cells + mc) (slots + ms) Q (F0 m (pc + 3) ls (v.toList ++ rest))) : W p l e Rm s m args below meth c H locs cells slots Q (F0 m pc ls st0) := nh_callV (tys := im_tys cA) (T := qT6) (N := 28) ⟨hx, hb, hml, hown, ht⟩ hM (cwV 3 ht (gd_V wcX6_cls hl wiX6_cls weX6_cls wz6) rfl rfl rfl (by decide +kernel) hR) (im_Kok D cA) hK hK.1 hw hn hg rfl hlen hsz hst hrm hdg hfit kk
theorem kcX6_cls_2 {nm : nh_N} (hl : Cond.methodLink own index yX6_cls ∈ im_ws) (hM : im_M l D cA yX6_cls vX6_cls fr lo mc ms (.ref b :: As) S g I R post) (hx : p.tables.exec = Jvm.exec) (hb : c.code = cc) (hml : c.maxLocals = nL) (ht : ∀ w ∈ im_ws, w.before args s = true) (hown : s.vm.findClass own = some m.cls) (hK : im_K D cA s) (hw : nh_S D im_cl im_sk cA A H0 S g I R H locs) (hn : S nm = some (0, 6)) (hg : g nm = b) (hlen : As.length = 3) (hsz : ls.size = nL) (hst : st0 = As.reverse ++ .ref b :: rest) (hrm : (rest.map fun v => v.category).sum ≤ 8) (hR : fr + 1 ≤ Rm.frames ∧ 8 + (4 + 11) + lo ≤ Rm.locals) (hfit : cells + mc ≤ Rm.cells ∧ slots + ms ≤ Rm.slots) (hdg : decode cc pc = .ok (.invokevirtual index, 3)) (kk : ∀ (v : Option Value) (S' : nh_N → Option nh_C) (g' : nh_N → Nat) (I' : nh_N → Nat → Int32) (R' : nh_N → Nat → Option nh_N) (H1 : Heap) (locs1 : List Loc), post v S' g' I' R' → nh_S D im_cl im_sk cA A H0 S' g' I' R' H1 locs1 → (∀ q, q < H.size → ¬ nh_A S g H.size q → H1[q]? = H[q]?) → (∀ n c, S' n = some c → nh_A S g H.size (g' n)) → W p l e Rm s m args below meth c H1 locs1 (cells + mc) (slots + ms) Q (F0 m (pc + 3) ls (v.toList ++ rest))) : W p l e Rm s m args below meth c H locs cells slots Q (F0 m pc ls st0) := nh_callV2 (tys := im_tys cA) (T := qT6) (N := 28) ⟨hx, hb, hml, hown, ht⟩ hM (cwV 3 ht (gd_V wcX6_cls hl wiX6_cls weX6_cls wz6) rfl rfl rfl (by decide +kernel) hR) (im_Kok D cA) hK hK.1 hw hn hg rfl hlen hsz hst hrm hdg hfit kk
theorem kcX6_insert {nm : nh_N} (hl : Cond.methodLink own index yX6_insert ∈ im_ws) (hM : im_M l D cA yX6_insert vX6_insert fr lo mc ms (.ref b :: As) S g I R post) (hx : p.tables.exec = Jvm.exec) (hb : c.code = cc) (hml : c.maxLocals = nL) (ht : ∀ w ∈ im_ws, w.before args s = true) (hown : s.vm.findClass own = some m.cls) (hK : im_K D cA s) (hw : nh_S D im_cl im_sk cA A H0 S g I R H locs) (hn : S nm = some (0, 6)) (hg : g nm = b) (hlen : As.length = 3) (hsz : ls.size = nL) (hst : st0 = As.reverse ++ .ref b :: rest) (hrm : (rest.map fun v => v.category).sum ≤ 8) (hR : fr + 1 ≤ Rm.frames ∧ 8 + (4 + 11) + lo ≤ Rm.locals) (hfit : cells + mc ≤ Rm.cells ∧ slots + ms ≤ Rm.slots) (hdg : decode cc pc = .ok (.invokevirtual index, 3)) (kk : ∀ (v : Option Value) (S' : nh_N → Option nh_C) (g' : nh_N → Nat) (I' : nh_N → Nat → Int32) (R' : nh_N → Nat → Option nh_N) (H1 : Heap) (locs1 : List Loc), post v S' g' I' R' → nh_S D im_cl im_sk cA A H0 S' g' I' R' H1 locs1 → W p l e Rm s m args below meth c H1 locs1 (cells + mc) (slots + ms) Q (F0 m (pc + 3) ls (v.toList ++ rest))) : W p l e Rm s m args below meth c H locs cells slots Q (F0 m pc ls st0) := nh_callV (tys := im_tys cA) (T := qT6) (N := 28) ⟨hx, hb, hml, hown, ht⟩ hM (cwV 3 ht (gd_V wcX6_insert hl wiX6_insert weX6_insert wz6) rfl rfl rfl (by decide +kernel) hR) (im_Kok D cA) hK hK.1 hw hn hg rfl hlen hsz hst hrm hdg hfit kk
theorem kcX6_insert_2 {nm : nh_N} (hl : Cond.methodLink own index yX6_insert ∈ im_ws) (hM : im_M l D cA yX6_insert vX6_insert fr lo mc ms (.ref b :: As) S g I R post) (hx : p.tables.exec = Jvm.exec) (hb : c.code = cc) (hml : c.maxLocals = nL) (ht : ∀ w ∈ im_ws, w.before args s = true) (hown : s.vm.findClass own = some m.cls) (hK : im_K D cA s) (hw : nh_S D im_cl im_sk cA A H0 S g I R H locs) (hn : S nm = some (0, 6)) (hg : g nm = b) (hlen : As.length = 3) (hsz : ls.size = nL) (hst : st0 = As.reverse ++ .ref b :: rest) (hrm : (rest.map fun v => v.category).sum ≤ 8) (hR : fr + 1 ≤ Rm.frames ∧ 8 + (4 + 11) + lo ≤ Rm.locals) (hfit : cells + mc ≤ Rm.cells ∧ slots + ms ≤ Rm.slots) (hdg : decode cc pc = .ok (.invokevirtual index, 3)) (kk : ∀ (v : Option Value) (S' : nh_N → Option nh_C) (g' : nh_N → Nat) (I' : nh_N → Nat → Int32) (R' : nh_N → Nat → Option nh_N) (H1 : Heap) (locs1 : List Loc), post v S' g' I' R' → nh_S D im_cl im_sk cA A H0 S' g' I' R' H1 locs1 → (∀ q, q < H.size → ¬ nh_A S g H.size q → H1[q]? = H[q]?) → (∀ n c, S' n = some c → nh_A S g H.size (g' n)) → W p l e Rm s m args below meth c H1 locs1 (cells + mc) (slots + ms) Q (F0 m (pc + 3) ls (v.toList ++ rest))) : W p l e Rm s m args below meth c H locs cells slots Q (F0 m pc ls st0) := nh_callV2 (tys := im_tys cA) (T := qT6) (N := 28) ⟨hx, hb, hml, hown, ht⟩ hM (cwV 3 ht (gd_V wcX6_insert hl wiX6_insert weX6_insert wz6) rfl rfl rfl (by decide +kernel) hR) (im_Kok D cA) hK hK.1 hw hn hg rfl hlen hsz hst hrm hdg hfit kk
theorem kcX6_mark {nm : nh_N} (hl : Cond.methodLink own index yX6_mark ∈ im_ws) (hM : im_M l D cA yX6_mark vX6_mark fr lo mc ms (.ref b :: As) S g I R post) (hx : p.tables.exec = Jvm.exec) (hb : c.code = cc) (hml : c.maxLocals = nL) (ht : ∀ w ∈ im_ws, w.before args s = true) (hown : s.vm.findClass own = some m.cls) (hK : im_K D cA s) (hw : nh_S D im_cl im_sk cA A H0 S g I R H locs) (hn : S nm = some (0, 6)) (hg : g nm = b) (hlen : As.length = 3) (hsz : ls.size = nL) (hst : st0 = As.reverse ++ .ref b :: rest) (hrm : (rest.map fun v => v.category).sum ≤ 8) (hR : fr + 1 ≤ Rm.frames ∧ 8 + (4 + 11) + lo ≤ Rm.locals) (hfit : cells + mc ≤ Rm.cells ∧ slots + ms ≤ Rm.slots) (hdg : decode cc pc = .ok (.invokevirtual index, 3)) (kk : ∀ (v : Option Value) (S' : nh_N → Option nh_C) (g' : nh_N → Nat) (I' : nh_N → Nat → Int32) (R' : nh_N → Nat → Option nh_N) (H1 : Heap) (locs1 : List Loc), post v S' g' I' R' → nh_S D im_cl im_sk cA A H0 S' g' I' R' H1 locs1 → W p l e Rm s m args below meth c H1 locs1 (cells + mc) (slots + ms) Q (F0 m (pc + 3) ls (v.toList ++ rest))) : W p l e Rm s m args below meth c H locs cells slots Q (F0 m pc ls st0) := nh_callV (tys := im_tys cA) (T := qT6) (N := 28) ⟨hx, hb, hml, hown, ht⟩ hM (cwV 3 ht (gd_V wcX6_mark hl wiX6_mark weX6_mark wz6) rfl rfl rfl (by decide +kernel) hR) (im_Kok D cA) hK hK.1 hw hn hg rfl hlen hsz hst hrm hdg hfit kk
theorem kcX6_mark_2 {nm : nh_N} (hl : Cond.methodLink own index yX6_mark ∈ im_ws) (hM : im_M l D cA yX6_mark vX6_mark fr lo mc ms (.ref b :: As) S g I R post) (hx : p.tables.exec = Jvm.exec) (hb : c.code = cc) (hml : c.maxLocals = nL) (ht : ∀ w ∈ im_ws, w.before args s = true) (hown : s.vm.findClass own = some m.cls) (hK : im_K D cA s) (hw : nh_S D im_cl im_sk cA A H0 S g I R H locs) (hn : S nm = some (0, 6)) (hg : g nm = b) (hlen : As.length = 3) (hsz : ls.size = nL) (hst : st0 = As.reverse ++ .ref b :: rest) (hrm : (rest.map fun v => v.category).sum ≤ 8) (hR : fr + 1 ≤ Rm.frames ∧ 8 + (4 + 11) + lo ≤ Rm.locals) (hfit : cells + mc ≤ Rm.cells ∧ slots + ms ≤ Rm.slots) (hdg : decode cc pc = .ok (.invokevirtual index, 3)) (kk : ∀ (v : Option Value) (S' : nh_N → Option nh_C) (g' : nh_N → Nat) (I' : nh_N → Nat → Int32) (R' : nh_N → Nat → Option nh_N) (H1 : Heap) (locs1 : List Loc), post v S' g' I' R' → nh_S D im_cl im_sk cA A H0 S' g' I' R' H1 locs1 → (∀ q, q < H.size → ¬ nh_A S g H.size q → H1[q]? = H[q]?) → (∀ n c, S' n = some c → nh_A S g H.size (g' n)) → W p l e Rm s m args below meth c H1 locs1 (cells + mc) (slots + ms) Q (F0 m (pc + 3) ls (v.toList ++ rest))) : W p l e Rm s m args below meth c H locs cells slots Q (F0 m pc ls st0) := nh_callV2 (tys := im_tys cA) (T := qT6) (N := 28) ⟨hx, hb, hml, hown, ht⟩ hM (cwV 3 ht (gd_V wcX6_mark hl wiX6_mark weX6_mark wz6) rfl rfl rfl (by decide +kernel) hR) (im_Kok D cA) hK hK.1 hw hn hg rfl hlen hsz hst hrm hdg hfit kk
theorem kcX6_standing {nm : nh_N} (hl : Cond.methodLink own index yX6_standing ∈ im_ws) (hM : im_M l D cA yX6_standing vX6_standing fr lo mc ms (.ref b :: As) S g I R post) (hx : p.tables.exec = Jvm.exec) (hb : c.code = cc) (hml : c.maxLocals = nL) (ht : ∀ w ∈ im_ws, w.before args s = true) (hown : s.vm.findClass own = some m.cls) (hK : im_K D cA s) (hw : nh_S D im_cl im_sk cA A H0 S g I R H locs) (hn : S nm = some (0, 6)) (hg : g nm = b) (hlen : As.length = 2) (hsz : ls.size = nL) (hst : st0 = As.reverse ++ .ref b :: rest) (hrm : (rest.map fun v => v.category).sum ≤ 8) (hR : fr + 1 ≤ Rm.frames ∧ 8 + (5 + 11) + lo ≤ Rm.locals) (hfit : cells + mc ≤ Rm.cells ∧ slots + ms ≤ Rm.slots) (hdg : decode cc pc = .ok (.invokevirtual index, 3)) (kk : ∀ (v : Option Value) (S' : nh_N → Option nh_C) (g' : nh_N → Nat) (I' : nh_N → Nat → Int32) (R' : nh_N → Nat → Option nh_N) (H1 : Heap) (locs1 : List Loc), post v S' g' I' R' → nh_S D im_cl im_sk cA A H0 S' g' I' R' H1 locs1 → W p l e Rm s m args below meth c H1 locs1 (cells + mc) (slots + ms) Q (F0 m (pc + 3) ls (v.toList ++ rest))) : W p l e Rm s m args below meth c H locs cells slots Q (F0 m pc ls st0) := nh_callV (tys := im_tys cA) (T := qT6) (N := 28) ⟨hx, hb, hml, hown, ht⟩ hM (cwV 2 ht (gd_V wcX6_standing hl wiX6_standing weX6_standing wz6) rfl rfl rfl (by decide +kernel) hR) (im_Kok D cA) hK hK.1 hw hn hg rfl hlen hsz hst hrm hdg hfit kk
theorem kcX6_standing_2 {nm : nh_N} (hl : Cond.methodLink own index yX6_standing ∈ im_ws) (hM : im_M l D cA yX6_standing vX6_standing fr lo mc ms (.ref b :: As) S g I R post) (hx : p.tables.exec = Jvm.exec) (hb : c.code = cc) (hml : c.maxLocals = nL) (ht : ∀ w ∈ im_ws, w.before args s = true) (hown : s.vm.findClass own = some m.cls) (hK : im_K D cA s) (hw : nh_S D im_cl im_sk cA A H0 S g I R H locs) (hn : S nm = some (0, 6)) (hg : g nm = b) (hlen : As.length = 2) (hsz : ls.size = nL) (hst : st0 = As.reverse ++ .ref b :: rest) (hrm : (rest.map fun v => v.category).sum ≤ 8) (hR : fr + 1 ≤ Rm.frames ∧ 8 + (5 + 11) + lo ≤ Rm.locals) (hfit : cells + mc ≤ Rm.cells ∧ slots + ms ≤ Rm.slots) (hdg : decode cc pc = .ok (.invokevirtual index, 3)) (kk : ∀ (v : Option Value) (S' : nh_N → Option nh_C) (g' : nh_N → Nat) (I' : nh_N → Nat → Int32) (R' : nh_N → Nat → Option nh_N) (H1 : Heap) (locs1 : List Loc), post v S' g' I' R' → nh_S D im_cl im_sk cA A H0 S' g' I' R' H1 locs1 → (∀ q, q < H.size → ¬ nh_A S g H.size q → H1[q]? = H[q]?) → (∀ n c, S' n = some c → nh_A S g H.size (g' n)) → W p l e Rm s m args below meth c H1 locs1 (cells + mc) (slots + ms) Q (F0 m (pc + 3) ls (v.toList ++ rest))) : W p l e Rm s m args below meth c H locs cells slots Q (F0 m pc ls st0) := nh_callV2 (tys := im_tys cA) (T := qT6) (N := 28) ⟨hx, hb, hml, hown, ht⟩ hM (cwV 2 ht (gd_V wcX6_standing hl wiX6_standing weX6_standing wz6) rfl rfl rfl (by decide +kernel) hR) (im_Kok D cA) hK hK.1 hw hn hg rfl hlen hsz hst hrm hdg hfit kk
theorem kcX6_place {nm : nh_N} (hl : Cond.methodLink own index yX6_place ∈ im_ws) (hM : im_M l D cA yX6_place vX6_place fr lo mc ms (.ref b :: As) S g I R post) (hx : p.tables.exec = Jvm.exec) (hb : c.code = cc) (hml : c.maxLocals = nL) (ht : ∀ w ∈ im_ws, w.before args s = true) (hown : s.vm.findClass own = some m.cls) (hK : im_K D cA s) (hw : nh_S D im_cl im_sk cA A H0 S g I R H locs) (hn : S nm = some (0, 6)) (hg : g nm = b) (hlen : As.length = 3) (hsz : ls.size = nL) (hst : st0 = As.reverse ++ .ref b :: rest) (hrm : (rest.map fun v => v.category).sum ≤ 8) (hR : fr + 1 ≤ Rm.frames ∧ 8 + (5 + 11) + lo ≤ Rm.locals) (hfit : cells + mc ≤ Rm.cells ∧ slots + ms ≤ Rm.slots) (hdg : decode cc pc = .ok (.invokevirtual index, 3)) (kk : ∀ (v : Option Value) (S' : nh_N → Option nh_C) (g' : nh_N → Nat) (I' : nh_N → Nat → Int32) (R' : nh_N → Nat → Option nh_N) (H1 : Heap) (locs1 : List Loc), post v S' g' I' R' → nh_S D im_cl im_sk cA A H0 S' g' I' R' H1 locs1 → W p l e Rm s m args below meth c H1 locs1 (cells + mc) (slots + ms) Q (F0 m (pc + 3) ls (v.toList ++ rest))) : W p l e Rm s m args below meth c H locs cells slots Q (F0 m pc ls st0) := nh_callV (tys := im_tys cA) (T := qT6) (N := 28) ⟨hx, hb, hml, hown, ht⟩ hM (cwV 3 ht (gd_V wcX6_place hl wiX6_place weX6_place wz6) rfl rfl rfl (by decide +kernel) hR) (im_Kok D cA) hK hK.1 hw hn hg rfl hlen hsz hst hrm hdg hfit kk
theorem kcX6_place_2 {nm : nh_N} (hl : Cond.methodLink own index yX6_place ∈ im_ws) (hM : im_M l D cA yX6_place vX6_place fr lo mc ms (.ref b :: As) S g I R post) (hx : p.tables.exec = Jvm.exec) (hb : c.code = cc) (hml : c.maxLocals = nL) (ht : ∀ w ∈ im_ws, w.before args s = true) (hown : s.vm.findClass own = some m.cls) (hK : im_K D cA s) (hw : nh_S D im_cl im_sk cA A H0 S g I R H locs) (hn : S nm = some (0, 6)) (hg : g nm = b) (hlen : As.length = 3) (hsz : ls.size = nL) (hst : st0 = As.reverse ++ .ref b :: rest) (hrm : (rest.map fun v => v.category).sum ≤ 8) (hR : fr + 1 ≤ Rm.frames ∧ 8 + (5 + 11) + lo ≤ Rm.locals) (hfit : cells + mc ≤ Rm.cells ∧ slots + ms ≤ Rm.slots) (hdg : decode cc pc = .ok (.invokevirtual index, 3)) (kk : ∀ (v : Option Value) (S' : nh_N → Option nh_C) (g' : nh_N → Nat) (I' : nh_N → Nat → Int32) (R' : nh_N → Nat → Option nh_N) (H1 : Heap) (locs1 : List Loc), post v S' g' I' R' → nh_S D im_cl im_sk cA A H0 S' g' I' R' H1 locs1 → (∀ q, q < H.size → ¬ nh_A S g H.size q → H1[q]? = H[q]?) → (∀ n c, S' n = some c → nh_A S g H.size (g' n)) → W p l e Rm s m args below meth c H1 locs1 (cells + mc) (slots + ms) Q (F0 m (pc + 3) ls (v.toList ++ rest))) : W p l e Rm s m args below meth c H locs cells slots Q (F0 m pc ls st0) := nh_callV2 (tys := im_tys cA) (T := qT6) (N := 28) ⟨hx, hb, hml, hown, ht⟩ hM (cwV 3 ht (gd_V wcX6_place hl wiX6_place weX6_place wz6) rfl rfl rfl (by decide +kernel) hR) (im_Kok D cA) hK hK.1 hw hn hg rfl hlen hsz hst hrm hdg hfit kk
theorem kcX6_go {nm : nh_N} (hl : Cond.methodLink own index yX6_go ∈ im_ws) (hM : im_M l D cA yX6_go vX6_go fr lo mc ms (.ref b :: As) S g I R post) (hx : p.tables.exec = Jvm.exec) (hb : c.code = cc) (hml : c.maxLocals = nL) (ht : ∀ w ∈ im_ws, w.before args s = true) (hown : s.vm.findClass own = some m.cls) (hK : im_K D cA s) (hw : nh_S D im_cl im_sk cA A H0 S g I R H locs) (hn : S nm = some (0, 6)) (hg : g nm = b) (hlen : As.length = 1) (hsz : ls.size = nL) (hst : st0 = As.reverse ++ .ref b :: rest) (hrm : (rest.map fun v => v.category).sum ≤ 8) (hR : fr + 1 ≤ Rm.frames ∧ 8 + (6 + 11) + lo ≤ Rm.locals) (hfit : cells + mc ≤ Rm.cells ∧ slots + ms ≤ Rm.slots) (hdg : decode cc pc = .ok (.invokevirtual index, 3)) (kk : ∀ (v : Option Value) (S' : nh_N → Option nh_C) (g' : nh_N → Nat) (I' : nh_N → Nat → Int32) (R' : nh_N → Nat → Option nh_N) (H1 : Heap) (locs1 : List Loc), post v S' g' I' R' → nh_S D im_cl im_sk cA A H0 S' g' I' R' H1 locs1 → W p l e Rm s m args below meth c H1 locs1 (cells + mc) (slots + ms) Q (F0 m (pc + 3) ls (v.toList ++ rest))) : W p l e Rm s m args below meth c H locs cells slots Q (F0 m pc ls st0) := nh_callV (tys := im_tys cA) (T := qT6) (N := 28) ⟨hx, hb, hml, hown, ht⟩ hM (cwV 1 ht (gd_V wcX6_go hl wiX6_go weX6_go wz6) rfl rfl rfl (by decide +kernel) hR) (im_Kok D cA) hK hK.1 hw hn hg rfl hlen hsz hst hrm hdg hfit kk
theorem kcX6_go_2 {nm : nh_N} (hl : Cond.methodLink own index yX6_go ∈ im_ws) (hM : im_M l D cA yX6_go vX6_go fr lo mc ms (.ref b :: As) S g I R post) (hx : p.tables.exec = Jvm.exec) (hb : c.code = cc) (hml : c.maxLocals = nL) (ht : ∀ w ∈ im_ws, w.before args s = true) (hown : s.vm.findClass own = some m.cls) (hK : im_K D cA s) (hw : nh_S D im_cl im_sk cA A H0 S g I R H locs) (hn : S nm = some (0, 6)) (hg : g nm = b) (hlen : As.length = 1) (hsz : ls.size = nL) (hst : st0 = As.reverse ++ .ref b :: rest) (hrm : (rest.map fun v => v.category).sum ≤ 8) (hR : fr + 1 ≤ Rm.frames ∧ 8 + (6 + 11) + lo ≤ Rm.locals) (hfit : cells + mc ≤ Rm.cells ∧ slots + ms ≤ Rm.slots) (hdg : decode cc pc = .ok (.invokevirtual index, 3)) (kk : ∀ (v : Option Value) (S' : nh_N → Option nh_C) (g' : nh_N → Nat) (I' : nh_N → Nat → Int32) (R' : nh_N → Nat → Option nh_N) (H1 : Heap) (locs1 : List Loc), post v S' g' I' R' → nh_S D im_cl im_sk cA A H0 S' g' I' R' H1 locs1 → (∀ q, q < H.size → ¬ nh_A S g H.size q → H1[q]? = H[q]?) → (∀ n c, S' n = some c → nh_A S g H.size (g' n)) → W p l e Rm s m args below meth c H1 locs1 (cells + mc) (slots + ms) Q (F0 m (pc + 3) ls (v.toList ++ rest))) : W p l e Rm s m args below meth c H locs cells slots Q (F0 m pc ls st0) := nh_callV2 (tys := im_tys cA) (T := qT6) (N := 28) ⟨hx, hb, hml, hown, ht⟩ hM (cwV 1 ht (gd_V wcX6_go hl wiX6_go weX6_go wz6) rfl rfl rfl (by decide +kernel) hR) (im_Kok D cA) hK hK.1 hw hn hg rfl hlen hsz hst hrm hdg hfit kk
theorem kcX6_waits {nm : nh_N} (hl : Cond.methodLink own index yX6_waits ∈ im_ws) (hM : im_M l D cA yX6_waits vX6_waits fr lo mc ms (.ref b :: As) S g I R post) (hx : p.tables.exec = Jvm.exec) (hb : c.code = cc) (hml : c.maxLocals = nL) (ht : ∀ w ∈ im_ws, w.before args s = true) (hown : s.vm.findClass own = some m.cls) (hK : im_K D cA s) (hw : nh_S D im_cl im_sk cA A H0 S g I R H locs) (hn : S nm = some (0, 6)) (hg : g nm = b) (hlen : As.length = 1) (hsz : ls.size = nL) (hst : st0 = As.reverse ++ .ref b :: rest) (hrm : (rest.map fun v => v.category).sum ≤ 8) (hR : fr + 1 ≤ Rm.frames ∧ 8 + (2 + 11) + lo ≤ Rm.locals) (hfit : cells + mc ≤ Rm.cells ∧ slots + ms ≤ Rm.slots) (hdg : decode cc pc = .ok (.invokevirtual index, 3)) (kk : ∀ (v : Option Value) (S' : nh_N → Option nh_C) (g' : nh_N → Nat) (I' : nh_N → Nat → Int32) (R' : nh_N → Nat → Option nh_N) (H1 : Heap) (locs1 : List Loc), post v S' g' I' R' → nh_S D im_cl im_sk cA A H0 S' g' I' R' H1 locs1 → W p l e Rm s m args below meth c H1 locs1 (cells + mc) (slots + ms) Q (F0 m (pc + 3) ls (v.toList ++ rest))) : W p l e Rm s m args below meth c H locs cells slots Q (F0 m pc ls st0) := nh_callV (tys := im_tys cA) (T := qT6) (N := 28) ⟨hx, hb, hml, hown, ht⟩ hM (cwV 1 ht (gd_V wcX6_waits hl wiX6_waits weX6_waits wz6) rfl rfl rfl (by decide +kernel) hR) (im_Kok D cA) hK hK.1 hw hn hg rfl hlen hsz hst hrm hdg hfit kk
theorem kcX6_waits_2 {nm : nh_N} (hl : Cond.methodLink own index yX6_waits ∈ im_ws) (hM : im_M l D cA yX6_waits vX6_waits fr lo mc ms (.ref b :: As) S g I R post) (hx : p.tables.exec = Jvm.exec) (hb : c.code = cc) (hml : c.maxLocals = nL) (ht : ∀ w ∈ im_ws, w.before args s = true) (hown : s.vm.findClass own = some m.cls) (hK : im_K D cA s) (hw : nh_S D im_cl im_sk cA A H0 S g I R H locs) (hn : S nm = some (0, 6)) (hg : g nm = b) (hlen : As.length = 1) (hsz : ls.size = nL) (hst : st0 = As.reverse ++ .ref b :: rest) (hrm : (rest.map fun v => v.category).sum ≤ 8) (hR : fr + 1 ≤ Rm.frames ∧ 8 + (2 + 11) + lo ≤ Rm.locals) (hfit : cells + mc ≤ Rm.cells ∧ slots + ms ≤ Rm.slots) (hdg : decode cc pc = .ok (.invokevirtual index, 3)) (kk : ∀ (v : Option Value) (S' : nh_N → Option nh_C) (g' : nh_N → Nat) (I' : nh_N → Nat → Int32) (R' : nh_N → Nat → Option nh_N) (H1 : Heap) (locs1 : List Loc), post v S' g' I' R' → nh_S D im_cl im_sk cA A H0 S' g' I' R' H1 locs1 → (∀ q, q < H.size → ¬ nh_A S g H.size q → H1[q]? = H[q]?) → (∀ n c, S' n = some c → nh_A S g H.size (g' n)) → W p l e Rm s m args below meth c H1 locs1 (cells + mc) (slots + ms) Q (F0 m (pc + 3) ls (v.toList ++ rest))) : W p l e Rm s m args below meth c H locs cells slots Q (F0 m pc ls st0) := nh_callV2 (tys := im_tys cA) (T := qT6) (N := 28) ⟨hx, hb, hml, hown, ht⟩ hM (cwV 1 ht (gd_V wcX6_waits hl wiX6_waits weX6_waits wz6) rfl rfl rfl (by decide +kernel) hR) (im_Kok D cA) hK hK.1 hw hn hg rfl hlen hsz hst hrm hdg hfit kk
theorem kcX6_isIn {nm : nh_N} (hl : Cond.methodLink own index yX6_isIn ∈ im_ws) (hM : im_M l D cA yX6_isIn vX6_isIn fr lo mc ms (.ref b :: As) S g I R post) (hx : p.tables.exec = Jvm.exec) (hb : c.code = cc) (hml : c.maxLocals = nL) (ht : ∀ w ∈ im_ws, w.before args s = true) (hown : s.vm.findClass own = some m.cls) (hK : im_K D cA s) (hw : nh_S D im_cl im_sk cA A H0 S g I R H locs) (hn : S nm = some (0, 6)) (hg : g nm = b) (hlen : As.length = 2) (hsz : ls.size = nL) (hst : st0 = As.reverse ++ .ref b :: rest) (hrm : (rest.map fun v => v.category).sum ≤ 8) (hR : fr + 1 ≤ Rm.frames ∧ 8 + (5 + 11) + lo ≤ Rm.locals) (hfit : cells + mc ≤ Rm.cells ∧ slots + ms ≤ Rm.slots) (hdg : decode cc pc = .ok (.invokevirtual index, 3)) (kk : ∀ (v : Option Value) (S' : nh_N → Option nh_C) (g' : nh_N → Nat) (I' : nh_N → Nat → Int32) (R' : nh_N → Nat → Option nh_N) (H1 : Heap) (locs1 : List Loc), post v S' g' I' R' → nh_S D im_cl im_sk cA A H0 S' g' I' R' H1 locs1 → W p l e Rm s m args below meth c H1 locs1 (cells + mc) (slots + ms) Q (F0 m (pc + 3) ls (v.toList ++ rest))) : W p l e Rm s m args below meth c H locs cells slots Q (F0 m pc ls st0) := nh_callV (tys := im_tys cA) (T := qT6) (N := 28) ⟨hx, hb, hml, hown, ht⟩ hM (cwV 2 ht (gd_V wcX6_isIn hl wiX6_isIn weX6_isIn wz6) rfl rfl rfl (by decide +kernel) hR) (im_Kok D cA) hK hK.1 hw hn hg rfl hlen hsz hst hrm hdg hfit kk
theorem kcX6_isIn_2 {nm : nh_N} (hl : Cond.methodLink own index yX6_isIn ∈ im_ws) (hM : im_M l D cA yX6_isIn vX6_isIn fr lo mc ms (.ref b :: As) S g I R post) (hx : p.tables.exec = Jvm.exec) (hb : c.code = cc) (hml : c.maxLocals = nL) (ht : ∀ w ∈ im_ws, w.before args s = true) (hown : s.vm.findClass own = some m.cls) (hK : im_K D cA s) (hw : nh_S D im_cl im_sk cA A H0 S g I R H locs) (hn : S nm = some (0, 6)) (hg : g nm = b) (hlen : As.length = 2) (hsz : ls.size = nL) (hst : st0 = As.reverse ++ .ref b :: rest) (hrm : (rest.map fun v => v.category).sum ≤ 8) (hR : fr + 1 ≤ Rm.frames ∧ 8 + (5 + 11) + lo ≤ Rm.locals) (hfit : cells + mc ≤ Rm.cells ∧ slots + ms ≤ Rm.slots) (hdg : decode cc pc = .ok (.invokevirtual index, 3)) (kk : ∀ (v : Option Value) (S' : nh_N → Option nh_C) (g' : nh_N → Nat) (I' : nh_N → Nat → Int32) (R' : nh_N → Nat → Option nh_N) (H1 : Heap) (locs1 : List Loc), post v S' g' I' R' → nh_S D im_cl im_sk cA A H0 S' g' I' R' H1 locs1 → (∀ q, q < H.size → ¬ nh_A S g H.size q → H1[q]? = H[q]?) → (∀ n c, S' n = some c → nh_A S g H.size (g' n)) → W p l e Rm s m args below meth c H1 locs1 (cells + mc) (slots + ms) Q (F0 m (pc + 3) ls (v.toList ++ rest))) : W p l e Rm s m args below meth c H locs cells slots Q (F0 m pc ls st0) := nh_callV2 (tys := im_tys cA) (T := qT6) (N := 28) ⟨hx, hb, hml, hown, ht⟩ hM (cwV 2 ht (gd_V wcX6_isIn hl wiX6_isIn weX6_isIn wz6) rfl rfl rfl (by decide +kernel) hR) (im_Kok D cA) hK hK.1 hw hn hg rfl hlen hsz hst hrm hdg hfit kk
theorem kcX6_close {nm : nh_N} (hl : Cond.methodLink own index yX6_close ∈ im_ws) (hM : im_M l D cA yX6_close vX6_close fr lo mc ms (.ref b :: As) S g I R post) (hx : p.tables.exec = Jvm.exec) (hb : c.code = cc) (hml : c.maxLocals = nL) (ht : ∀ w ∈ im_ws, w.before args s = true) (hown : s.vm.findClass own = some m.cls) (hK : im_K D cA s) (hw : nh_S D im_cl im_sk cA A H0 S g I R H locs) (hn : S nm = some (0, 6)) (hg : g nm = b) (hlen : As.length = 0) (hsz : ls.size = nL) (hst : st0 = As.reverse ++ .ref b :: rest) (hrm : (rest.map fun v => v.category).sum ≤ 8) (hR : fr + 1 ≤ Rm.frames ∧ 8 + (4 + 11) + lo ≤ Rm.locals) (hfit : cells + mc ≤ Rm.cells ∧ slots + ms ≤ Rm.slots) (hdg : decode cc pc = .ok (.invokevirtual index, 3)) (kk : ∀ (v : Option Value) (S' : nh_N → Option nh_C) (g' : nh_N → Nat) (I' : nh_N → Nat → Int32) (R' : nh_N → Nat → Option nh_N) (H1 : Heap) (locs1 : List Loc), post v S' g' I' R' → nh_S D im_cl im_sk cA A H0 S' g' I' R' H1 locs1 → W p l e Rm s m args below meth c H1 locs1 (cells + mc) (slots + ms) Q (F0 m (pc + 3) ls (v.toList ++ rest))) : W p l e Rm s m args below meth c H locs cells slots Q (F0 m pc ls st0) := nh_callV (tys := im_tys cA) (T := qT6) (N := 28) ⟨hx, hb, hml, hown, ht⟩ hM (cwV 0 ht (gd_V wcX6_close hl wiX6_close weX6_close wz6) rfl rfl rfl (by decide +kernel) hR) (im_Kok D cA) hK hK.1 hw hn hg rfl hlen hsz hst hrm hdg hfit kk
theorem kcX6_close_2 {nm : nh_N} (hl : Cond.methodLink own index yX6_close ∈ im_ws) (hM : im_M l D cA yX6_close vX6_close fr lo mc ms (.ref b :: As) S g I R post) (hx : p.tables.exec = Jvm.exec) (hb : c.code = cc) (hml : c.maxLocals = nL) (ht : ∀ w ∈ im_ws, w.before args s = true) (hown : s.vm.findClass own = some m.cls) (hK : im_K D cA s) (hw : nh_S D im_cl im_sk cA A H0 S g I R H locs) (hn : S nm = some (0, 6)) (hg : g nm = b) (hlen : As.length = 0) (hsz : ls.size = nL) (hst : st0 = As.reverse ++ .ref b :: rest) (hrm : (rest.map fun v => v.category).sum ≤ 8) (hR : fr + 1 ≤ Rm.frames ∧ 8 + (4 + 11) + lo ≤ Rm.locals) (hfit : cells + mc ≤ Rm.cells ∧ slots + ms ≤ Rm.slots) (hdg : decode cc pc = .ok (.invokevirtual index, 3)) (kk : ∀ (v : Option Value) (S' : nh_N → Option nh_C) (g' : nh_N → Nat) (I' : nh_N → Nat → Int32) (R' : nh_N → Nat → Option nh_N) (H1 : Heap) (locs1 : List Loc), post v S' g' I' R' → nh_S D im_cl im_sk cA A H0 S' g' I' R' H1 locs1 → (∀ q, q < H.size → ¬ nh_A S g H.size q → H1[q]? = H[q]?) → (∀ n c, S' n = some c → nh_A S g H.size (g' n)) → W p l e Rm s m args below meth c H1 locs1 (cells + mc) (slots + ms) Q (F0 m (pc + 3) ls (v.toList ++ rest))) : W p l e Rm s m args below meth c H locs cells slots Q (F0 m pc ls st0) := nh_callV2 (tys := im_tys cA) (T := qT6) (N := 28) ⟨hx, hb, hml, hown, ht⟩ hM (cwV 0 ht (gd_V wcX6_close hl wiX6_close weX6_close wz6) rfl rfl rfl (by decide +kernel) hR) (im_Kok D cA) hK hK.1 hw hn hg rfl hlen hsz hst hrm hdg hfit kk
theorem kcX6_heldAt {nm : nh_N} (hl : Cond.methodLink own index yX6_heldAt ∈ im_ws) (hM : im_M l D cA yX6_heldAt vX6_heldAt fr lo mc ms (.ref b :: As) S g I R post) (hx : p.tables.exec = Jvm.exec) (hb : c.code = cc) (hml : c.maxLocals = nL) (ht : ∀ w ∈ im_ws, w.before args s = true) (hown : s.vm.findClass own = some m.cls) (hK : im_K D cA s) (hw : nh_S D im_cl im_sk cA A H0 S g I R H locs) (hn : S nm = some (0, 6)) (hg : g nm = b) (hlen : As.length = 1) (hsz : ls.size = nL) (hst : st0 = As.reverse ++ .ref b :: rest) (hrm : (rest.map fun v => v.category).sum ≤ 8) (hR : fr + 1 ≤ Rm.frames ∧ 8 + (5 + 11) + lo ≤ Rm.locals) (hfit : cells + mc ≤ Rm.cells ∧ slots + ms ≤ Rm.slots) (hdg : decode cc pc = .ok (.invokevirtual index, 3)) (kk : ∀ (v : Option Value) (S' : nh_N → Option nh_C) (g' : nh_N → Nat) (I' : nh_N → Nat → Int32) (R' : nh_N → Nat → Option nh_N) (H1 : Heap) (locs1 : List Loc), post v S' g' I' R' → nh_S D im_cl im_sk cA A H0 S' g' I' R' H1 locs1 → W p l e Rm s m args below meth c H1 locs1 (cells + mc) (slots + ms) Q (F0 m (pc + 3) ls (v.toList ++ rest))) : W p l e Rm s m args below meth c H locs cells slots Q (F0 m pc ls st0) := nh_callV (tys := im_tys cA) (T := qT6) (N := 28) ⟨hx, hb, hml, hown, ht⟩ hM (cwV 1 ht (gd_V wcX6_heldAt hl wiX6_heldAt weX6_heldAt wz6) rfl rfl rfl (by decide +kernel) hR) (im_Kok D cA) hK hK.1 hw hn hg rfl hlen hsz hst hrm hdg hfit kk
theorem kcX6_heldAt_2 {nm : nh_N} (hl : Cond.methodLink own index yX6_heldAt ∈ im_ws) (hM : im_M l D cA yX6_heldAt vX6_heldAt fr lo mc ms (.ref b :: As) S g I R post) (hx : p.tables.exec = Jvm.exec) (hb : c.code = cc) (hml : c.maxLocals = nL) (ht : ∀ w ∈ im_ws, w.before args s = true) (hown : s.vm.findClass own = some m.cls) (hK : im_K D cA s) (hw : nh_S D im_cl im_sk cA A H0 S g I R H locs) (hn : S nm = some (0, 6)) (hg : g nm = b) (hlen : As.length = 1) (hsz : ls.size = nL) (hst : st0 = As.reverse ++ .ref b :: rest) (hrm : (rest.map fun v => v.category).sum ≤ 8) (hR : fr + 1 ≤ Rm.frames ∧ 8 + (5 + 11) + lo ≤ Rm.locals) (hfit : cells + mc ≤ Rm.cells ∧ slots + ms ≤ Rm.slots) (hdg : decode cc pc = .ok (.invokevirtual index, 3)) (kk : ∀ (v : Option Value) (S' : nh_N → Option nh_C) (g' : nh_N → Nat) (I' : nh_N → Nat → Int32) (R' : nh_N → Nat → Option nh_N) (H1 : Heap) (locs1 : List Loc), post v S' g' I' R' → nh_S D im_cl im_sk cA A H0 S' g' I' R' H1 locs1 → (∀ q, q < H.size → ¬ nh_A S g H.size q → H1[q]? = H[q]?) → (∀ n c, S' n = some c → nh_A S g H.size (g' n)) → W p l e Rm s m args below meth c H1 locs1 (cells + mc) (slots + ms) Q (F0 m (pc + 3) ls (v.toList ++ rest))) : W p l e Rm s m args below meth c H locs cells slots Q (F0 m pc ls st0) := nh_callV2 (tys := im_tys cA) (T := qT6) (N := 28) ⟨hx, hb, hml, hown, ht⟩ hM (cwV 1 ht (gd_V wcX6_heldAt hl wiX6_heldAt weX6_heldAt wz6) rfl rfl rfl (by decide +kernel) hR) (im_Kok D cA) hK hK.1 hw hn hg rfl hlen hsz hst hrm hdg hfit kk
theorem kcX6_flush {nm : nh_N} (hl : Cond.methodLink own index yX6_flush ∈ im_ws) (hM : im_M l D cA yX6_flush vX6_flush fr lo mc ms (.ref b :: As) S g I R post) (hx : p.tables.exec = Jvm.exec) (hb : c.code = cc) (hml : c.maxLocals = nL) (ht : ∀ w ∈ im_ws, w.before args s = true) (hown : s.vm.findClass own = some m.cls) (hK : im_K D cA s) (hw : nh_S D im_cl im_sk cA A H0 S g I R H locs) (hn : S nm = some (0, 6)) (hg : g nm = b) (hlen : As.length = 0) (hsz : ls.size = nL) (hst : st0 = As.reverse ++ .ref b :: rest) (hrm : (rest.map fun v => v.category).sum ≤ 8) (hR : fr + 1 ≤ Rm.frames ∧ 8 + (3 + 11) + lo ≤ Rm.locals) (hfit : cells + mc ≤ Rm.cells ∧ slots + ms ≤ Rm.slots) (hdg : decode cc pc = .ok (.invokevirtual index, 3)) (kk : ∀ (v : Option Value) (S' : nh_N → Option nh_C) (g' : nh_N → Nat) (I' : nh_N → Nat → Int32) (R' : nh_N → Nat → Option nh_N) (H1 : Heap) (locs1 : List Loc), post v S' g' I' R' → nh_S D im_cl im_sk cA A H0 S' g' I' R' H1 locs1 → W p l e Rm s m args below meth c H1 locs1 (cells + mc) (slots + ms) Q (F0 m (pc + 3) ls (v.toList ++ rest))) : W p l e Rm s m args below meth c H locs cells slots Q (F0 m pc ls st0) := nh_callV (tys := im_tys cA) (T := qT6) (N := 28) ⟨hx, hb, hml, hown, ht⟩ hM (cwV 0 ht (gd_V wcX6_flush hl wiX6_flush weX6_flush wz6) rfl rfl rfl (by decide +kernel) hR) (im_Kok D cA) hK hK.1 hw hn hg rfl hlen hsz hst hrm hdg hfit kk
theorem kcX6_flush_2 {nm : nh_N} (hl : Cond.methodLink own index yX6_flush ∈ im_ws) (hM : im_M l D cA yX6_flush vX6_flush fr lo mc ms (.ref b :: As) S g I R post) (hx : p.tables.exec = Jvm.exec) (hb : c.code = cc) (hml : c.maxLocals = nL) (ht : ∀ w ∈ im_ws, w.before args s = true) (hown : s.vm.findClass own = some m.cls) (hK : im_K D cA s) (hw : nh_S D im_cl im_sk cA A H0 S g I R H locs) (hn : S nm = some (0, 6)) (hg : g nm = b) (hlen : As.length = 0) (hsz : ls.size = nL) (hst : st0 = As.reverse ++ .ref b :: rest) (hrm : (rest.map fun v => v.category).sum ≤ 8) (hR : fr + 1 ≤ Rm.frames ∧ 8 + (3 + 11) + lo ≤ Rm.locals) (hfit : cells + mc ≤ Rm.cells ∧ slots + ms ≤ Rm.slots) (hdg : decode cc pc = .ok (.invokevirtual index, 3)) (kk : ∀ (v : Option Value) (S' : nh_N → Option nh_C) (g' : nh_N → Nat) (I' : nh_N → Nat → Int32) (R' : nh_N → Nat → Option nh_N) (H1 : Heap) (locs1 : List Loc), post v S' g' I' R' → nh_S D im_cl im_sk cA A H0 S' g' I' R' H1 locs1 → (∀ q, q < H.size → ¬ nh_A S g H.size q → H1[q]? = H[q]?) → (∀ n c, S' n = some c → nh_A S g H.size (g' n)) → W p l e Rm s m args below meth c H1 locs1 (cells + mc) (slots + ms) Q (F0 m (pc + 3) ls (v.toList ++ rest))) : W p l e Rm s m args below meth c H locs cells slots Q (F0 m pc ls st0) := nh_callV2 (tys := im_tys cA) (T := qT6) (N := 28) ⟨hx, hb, hml, hown, ht⟩ hM (cwV 0 ht (gd_V wcX6_flush hl wiX6_flush weX6_flush wz6) rfl rfl rfl (by decide +kernel) hR) (im_Kok D cA) hK hK.1 hw hn hg rfl hlen hsz hst hrm hdg hfit kk
theorem kcX6_cancel {nm : nh_N} (hl : Cond.methodLink own index yX6_cancel ∈ im_ws) (hM : im_M l D cA yX6_cancel vX6_cancel fr lo mc ms (.ref b :: As) S g I R post) (hx : p.tables.exec = Jvm.exec) (hb : c.code = cc) (hml : c.maxLocals = nL) (ht : ∀ w ∈ im_ws, w.before args s = true) (hown : s.vm.findClass own = some m.cls) (hK : im_K D cA s) (hw : nh_S D im_cl im_sk cA A H0 S g I R H locs) (hn : S nm = some (0, 6)) (hg : g nm = b) (hlen : As.length = 1) (hsz : ls.size = nL) (hst : st0 = As.reverse ++ .ref b :: rest) (hrm : (rest.map fun v => v.category).sum ≤ 8) (hR : fr + 1 ≤ Rm.frames ∧ 8 + (2 + 11) + lo ≤ Rm.locals) (hfit : cells + mc ≤ Rm.cells ∧ slots + ms ≤ Rm.slots) (hdg : decode cc pc = .ok (.invokevirtual index, 3)) (kk : ∀ (v : Option Value) (S' : nh_N → Option nh_C) (g' : nh_N → Nat) (I' : nh_N → Nat → Int32) (R' : nh_N → Nat → Option nh_N) (H1 : Heap) (locs1 : List Loc), post v S' g' I' R' → nh_S D im_cl im_sk cA A H0 S' g' I' R' H1 locs1 → W p l e Rm s m args below meth c H1 locs1 (cells + mc) (slots + ms) Q (F0 m (pc + 3) ls (v.toList ++ rest))) : W p l e Rm s m args below meth c H locs cells slots Q (F0 m pc ls st0) := nh_callV (tys := im_tys cA) (T := qT6) (N := 28) ⟨hx, hb, hml, hown, ht⟩ hM (cwV 1 ht (gd_V wcX6_cancel hl wiX6_cancel weX6_cancel wz6) rfl rfl rfl (by decide +kernel) hR) (im_Kok D cA) hK hK.1 hw hn hg rfl hlen hsz hst hrm hdg hfit kk
theorem kcX6_cancel_2 {nm : nh_N} (hl : Cond.methodLink own index yX6_cancel ∈ im_ws) (hM : im_M l D cA yX6_cancel vX6_cancel fr lo mc ms (.ref b :: As) S g I R post) (hx : p.tables.exec = Jvm.exec) (hb : c.code = cc) (hml : c.maxLocals = nL) (ht : ∀ w ∈ im_ws, w.before args s = true) (hown : s.vm.findClass own = some m.cls) (hK : im_K D cA s) (hw : nh_S D im_cl im_sk cA A H0 S g I R H locs) (hn : S nm = some (0, 6)) (hg : g nm = b) (hlen : As.length = 1) (hsz : ls.size = nL) (hst : st0 = As.reverse ++ .ref b :: rest) (hrm : (rest.map fun v => v.category).sum ≤ 8) (hR : fr + 1 ≤ Rm.frames ∧ 8 + (2 + 11) + lo ≤ Rm.locals) (hfit : cells + mc ≤ Rm.cells ∧ slots + ms ≤ Rm.slots) (hdg : decode cc pc = .ok (.invokevirtual index, 3)) (kk : ∀ (v : Option Value) (S' : nh_N → Option nh_C) (g' : nh_N → Nat) (I' : nh_N → Nat → Int32) (R' : nh_N → Nat → Option nh_N) (H1 : Heap) (locs1 : List Loc), post v S' g' I' R' → nh_S D im_cl im_sk cA A H0 S' g' I' R' H1 locs1 → (∀ q, q < H.size → ¬ nh_A S g H.size q → H1[q]? = H[q]?) → (∀ n c, S' n = some c → nh_A S g H.size (g' n)) → W p l e Rm s m args below meth c H1 locs1 (cells + mc) (slots + ms) Q (F0 m (pc + 3) ls (v.toList ++ rest))) : W p l e Rm s m args below meth c H locs cells slots Q (F0 m pc ls st0) := nh_callV2 (tys := im_tys cA) (T := qT6) (N := 28) ⟨hx, hb, hml, hown, ht⟩ hM (cwV 1 ht (gd_V wcX6_cancel hl wiX6_cancel weX6_cancel wz6) rfl rfl rfl (by decide +kernel) hR) (im_Kok D cA) hK hK.1 hw hn hg rfl hlen hsz hst hrm hdg hfit kk
theorem kcX6_partAt {nm : nh_N} (hl : Cond.methodLink own index yX6_partAt ∈ im_ws) (hM : im_M l D cA yX6_partAt vX6_partAt fr lo mc ms (.ref b :: As) S g I R post) (hx : p.tables.exec = Jvm.exec) (hb : c.code = cc) (hml : c.maxLocals = nL) (ht : ∀ w ∈ im_ws, w.before args s = true) (hown : s.vm.findClass own = some m.cls) (hK : im_K D cA s) (hw : nh_S D im_cl im_sk cA A H0 S g I R H locs) (hn : S nm = some (0, 6)) (hg : g nm = b) (hlen : As.length = 2) (hsz : ls.size = nL) (hst : st0 = As.reverse ++ .ref b :: rest) (hrm : (rest.map fun v => v.category).sum ≤ 8) (hR : fr + 1 ≤ Rm.frames ∧ 8 + (5 + 11) + lo ≤ Rm.locals) (hfit : cells + mc ≤ Rm.cells ∧ slots + ms ≤ Rm.slots) (hdg : decode cc pc = .ok (.invokevirtual index, 3)) (kk : ∀ (v : Option Value) (S' : nh_N → Option nh_C) (g' : nh_N → Nat) (I' : nh_N → Nat → Int32) (R' : nh_N → Nat → Option nh_N) (H1 : Heap) (locs1 : List Loc), post v S' g' I' R' → nh_S D im_cl im_sk cA A H0 S' g' I' R' H1 locs1 → W p l e Rm s m args below meth c H1 locs1 (cells + mc) (slots + ms) Q (F0 m (pc + 3) ls (v.toList ++ rest))) : W p l e Rm s m args below meth c H locs cells slots Q (F0 m pc ls st0) := nh_callV (tys := im_tys cA) (T := qT6) (N := 28) ⟨hx, hb, hml, hown, ht⟩ hM (cwV 2 ht (gd_V wcX6_partAt hl wiX6_partAt weX6_partAt wz6) rfl rfl rfl (by decide +kernel) hR) (im_Kok D cA) hK hK.1 hw hn hg rfl hlen hsz hst hrm hdg hfit kk
theorem kcX6_partAt_2 {nm : nh_N} (hl : Cond.methodLink own index yX6_partAt ∈ im_ws) (hM : im_M l D cA yX6_partAt vX6_partAt fr lo mc ms (.ref b :: As) S g I R post) (hx : p.tables.exec = Jvm.exec) (hb : c.code = cc) (hml : c.maxLocals = nL) (ht : ∀ w ∈ im_ws, w.before args s = true) (hown : s.vm.findClass own = some m.cls) (hK : im_K D cA s) (hw : nh_S D im_cl im_sk cA A H0 S g I R H locs) (hn : S nm = some (0, 6)) (hg : g nm = b) (hlen : As.length = 2) (hsz : ls.size = nL) (hst : st0 = As.reverse ++ .ref b :: rest) (hrm : (rest.map fun v => v.category).sum ≤ 8) (hR : fr + 1 ≤ Rm.frames ∧ 8 + (5 + 11) + lo ≤ Rm.locals) (hfit : cells + mc ≤ Rm.cells ∧ slots + ms ≤ Rm.slots) (hdg : decode cc pc = .ok (.invokevirtual index, 3)) (kk : ∀ (v : Option Value) (S' : nh_N → Option nh_C) (g' : nh_N → Nat) (I' : nh_N → Nat → Int32) (R' : nh_N → Nat → Option nh_N) (H1 : Heap) (locs1 : List Loc), post v S' g' I' R' → nh_S D im_cl im_sk cA A H0 S' g' I' R' H1 locs1 → (∀ q, q < H.size → ¬ nh_A S g H.size q → H1[q]? = H[q]?) → (∀ n c, S' n = some c → nh_A S g H.size (g' n)) → W p l e Rm s m args below meth c H1 locs1 (cells + mc) (slots + ms) Q (F0 m (pc + 3) ls (v.toList ++ rest))) : W p l e Rm s m args below meth c H locs cells slots Q (F0 m pc ls st0) := nh_callV2 (tys := im_tys cA) (T := qT6) (N := 28) ⟨hx, hb, hml, hown, ht⟩ hM (cwV 2 ht (gd_V wcX6_partAt hl wiX6_partAt weX6_partAt wz6) rfl rfl rfl (by decide +kernel) hR) (im_Kok D cA) hK hK.1 hw hn hg rfl hlen hsz hst hrm hdg hfit kk
theorem kcX6_placed {nm : nh_N} (hl : Cond.methodLink own index yX6_placed ∈ im_ws) (hM : im_M l D cA yX6_placed vX6_placed fr lo mc ms (.ref b :: As) S g I R post) (hx : p.tables.exec = Jvm.exec) (hb : c.code = cc) (hml : c.maxLocals = nL) (ht : ∀ w ∈ im_ws, w.before args s = true) (hown : s.vm.findClass own = some m.cls) (hK : im_K D cA s) (hw : nh_S D im_cl im_sk cA A H0 S g I R H locs) (hn : S nm = some (0, 6)) (hg : g nm = b) (hlen : As.length = 3) (hsz : ls.size = nL) (hst : st0 = As.reverse ++ .ref b :: rest) (hrm : (rest.map fun v => v.category).sum ≤ 8) (hR : fr + 1 ≤ Rm.frames ∧ 8 + (5 + 11) + lo ≤ Rm.locals) (hfit : cells + mc ≤ Rm.cells ∧ slots + ms ≤ Rm.slots) (hdg : decode cc pc = .ok (.invokevirtual index, 3)) (kk : ∀ (v : Option Value) (S' : nh_N → Option nh_C) (g' : nh_N → Nat) (I' : nh_N → Nat → Int32) (R' : nh_N → Nat → Option nh_N) (H1 : Heap) (locs1 : List Loc), post v S' g' I' R' → nh_S D im_cl im_sk cA A H0 S' g' I' R' H1 locs1 → W p l e Rm s m args below meth c H1 locs1 (cells + mc) (slots + ms) Q (F0 m (pc + 3) ls (v.toList ++ rest))) : W p l e Rm s m args below meth c H locs cells slots Q (F0 m pc ls st0) := nh_callV (tys := im_tys cA) (T := qT6) (N := 28) ⟨hx, hb, hml, hown, ht⟩ hM (cwV 3 ht (gd_V wcX6_placed hl wiX6_placed weX6_placed wz6) rfl rfl rfl (by decide +kernel) hR) (im_Kok D cA) hK hK.1 hw hn hg rfl hlen hsz hst hrm hdg hfit kk
theorem kcX6_placed_2 {nm : nh_N} (hl : Cond.methodLink own index yX6_placed ∈ im_ws) (hM : im_M l D cA yX6_placed vX6_placed fr lo mc ms (.ref b :: As) S g I R post) (hx : p.tables.exec = Jvm.exec) (hb : c.code = cc) (hml : c.maxLocals = nL) (ht : ∀ w ∈ im_ws, w.before args s = true) (hown : s.vm.findClass own = some m.cls) (hK : im_K D cA s) (hw : nh_S D im_cl im_sk cA A H0 S g I R H locs) (hn : S nm = some (0, 6)) (hg : g nm = b) (hlen : As.length = 3) (hsz : ls.size = nL) (hst : st0 = As.reverse ++ .ref b :: rest) (hrm : (rest.map fun v => v.category).sum ≤ 8) (hR : fr + 1 ≤ Rm.frames ∧ 8 + (5 + 11) + lo ≤ Rm.locals) (hfit : cells + mc ≤ Rm.cells ∧ slots + ms ≤ Rm.slots) (hdg : decode cc pc = .ok (.invokevirtual index, 3)) (kk : ∀ (v : Option Value) (S' : nh_N → Option nh_C) (g' : nh_N → Nat) (I' : nh_N → Nat → Int32) (R' : nh_N → Nat → Option nh_N) (H1 : Heap) (locs1 : List Loc), post v S' g' I' R' → nh_S D im_cl im_sk cA A H0 S' g' I' R' H1 locs1 → (∀ q, q < H.size → ¬ nh_A S g H.size q → H1[q]? = H[q]?) → (∀ n c, S' n = some c → nh_A S g H.size (g' n)) → W p l e Rm s m args below meth c H1 locs1 (cells + mc) (slots + ms) Q (F0 m (pc + 3) ls (v.toList ++ rest))) : W p l e Rm s m args below meth c H locs cells slots Q (F0 m pc ls st0) := nh_callV2 (tys := im_tys cA) (T := qT6) (N := 28) ⟨hx, hb, hml, hown, ht⟩ hM (cwV 3 ht (gd_V wcX6_placed hl wiX6_placed weX6_placed wz6) rfl rfl rfl (by decide +kernel) hR) (im_Kok D cA) hK hK.1 hw hn hg rfl hlen hsz hst hrm hdg hfit kk
theorem kcX6_about {nm : nh_N} (hl : Cond.methodLink own index yX6_about ∈ im_ws) (hM : im_M l D cA yX6_about vX6_about fr lo mc ms (.ref b :: As) S g I R post) (hx : p.tables.exec = Jvm.exec) (hb : c.code = cc) (hml : c.maxLocals = nL) (ht : ∀ w ∈ im_ws, w.before args s = true) (hown : s.vm.findClass own = some m.cls) (hK : im_K D cA s) (hw : nh_S D im_cl im_sk cA A H0 S g I R H locs) (hn : S nm = some (0, 6)) (hg : g nm = b) (hlen : As.length = 2) (hsz : ls.size = nL) (hst : st0 = As.reverse ++ .ref b :: rest) (hrm : (rest.map fun v => v.category).sum ≤ 8) (hR : fr + 1 ≤ Rm.frames ∧ 8 + (6 + 11) + lo ≤ Rm.locals) (hfit : cells + mc ≤ Rm.cells ∧ slots + ms ≤ Rm.slots) (hdg : decode cc pc = .ok (.invokevirtual index, 3)) (kk : ∀ (v : Option Value) (S' : nh_N → Option nh_C) (g' : nh_N → Nat) (I' : nh_N → Nat → Int32) (R' : nh_N → Nat → Option nh_N) (H1 : Heap) (locs1 : List Loc), post v S' g' I' R' → nh_S D im_cl im_sk cA A H0 S' g' I' R' H1 locs1 → W p l e Rm s m args below meth c H1 locs1 (cells + mc) (slots + ms) Q (F0 m (pc + 3) ls (v.toList ++ rest))) : W p l e Rm s m args below meth c H locs cells slots Q (F0 m pc ls st0) := nh_callV (tys := im_tys cA) (T := qT6) (N := 28) ⟨hx, hb, hml, hown, ht⟩ hM (cwV 2 ht (gd_V wcX6_about hl wiX6_about weX6_about wz6) rfl rfl rfl (by decide +kernel) hR) (im_Kok D cA) hK hK.1 hw hn hg rfl hlen hsz hst hrm hdg hfit kk
theorem kcX6_about_2 {nm : nh_N} (hl : Cond.methodLink own index yX6_about ∈ im_ws) (hM : im_M l D cA yX6_about vX6_about fr lo mc ms (.ref b :: As) S g I R post) (hx : p.tables.exec = Jvm.exec) (hb : c.code = cc) (hml : c.maxLocals = nL) (ht : ∀ w ∈ im_ws, w.before args s = true) (hown : s.vm.findClass own = some m.cls) (hK : im_K D cA s) (hw : nh_S D im_cl im_sk cA A H0 S g I R H locs) (hn : S nm = some (0, 6)) (hg : g nm = b) (hlen : As.length = 2) (hsz : ls.size = nL) (hst : st0 = As.reverse ++ .ref b :: rest) (hrm : (rest.map fun v => v.category).sum ≤ 8) (hR : fr + 1 ≤ Rm.frames ∧ 8 + (6 + 11) + lo ≤ Rm.locals) (hfit : cells + mc ≤ Rm.cells ∧ slots + ms ≤ Rm.slots) (hdg : decode cc pc = .ok (.invokevirtual index, 3)) (kk : ∀ (v : Option Value) (S' : nh_N → Option nh_C) (g' : nh_N → Nat) (I' : nh_N → Nat → Int32) (R' : nh_N → Nat → Option nh_N) (H1 : Heap) (locs1 : List Loc), post v S' g' I' R' → nh_S D im_cl im_sk cA A H0 S' g' I' R' H1 locs1 → (∀ q, q < H.size → ¬ nh_A S g H.size q → H1[q]? = H[q]?) → (∀ n c, S' n = some c → nh_A S g H.size (g' n)) → W p l e Rm s m args below meth c H1 locs1 (cells + mc) (slots + ms) Q (F0 m (pc + 3) ls (v.toList ++ rest))) : W p l e Rm s m args below meth c H locs cells slots Q (F0 m pc ls st0) := nh_callV2 (tys := im_tys cA) (T := qT6) (N := 28) ⟨hx, hb, hml, hown, ht⟩ hM (cwV 2 ht (gd_V wcX6_about hl wiX6_about weX6_about wz6) rfl rfl rfl (by decide +kernel) hR) (im_Kok D cA) hK hK.1 hw hn hg rfl hlen hsz hst hrm hdg hfit kk
theorem kcX6_held {nm : nh_N} (hl : Cond.methodLink own index yX6_held ∈ im_ws) (hM : im_M l D cA yX6_held vX6_held fr lo mc ms (.ref b :: As) S g I R post) (hx : p.tables.exec = Jvm.exec) (hb : c.code = cc) (hml : c.maxLocals = nL) (ht : ∀ w ∈ im_ws, w.before args s = true) (hown : s.vm.findClass own = some m.cls) (hK : im_K D cA s) (hw : nh_S D im_cl im_sk cA A H0 S g I R H locs) (hn : S nm = some (0, 6)) (hg : g nm = b) (hlen : As.length = 1) (hsz : ls.size = nL) (hst : st0 = As.reverse ++ .ref b :: rest) (hrm : (rest.map fun v => v.category).sum ≤ 8) (hR : fr + 1 ≤ Rm.frames ∧ 8 + (2 + 11) + lo ≤ Rm.locals) (hfit : cells + mc ≤ Rm.cells ∧ slots + ms ≤ Rm.slots) (hdg : decode cc pc = .ok (.invokevirtual index, 3)) (kk : ∀ (v : Option Value) (S' : nh_N → Option nh_C) (g' : nh_N → Nat) (I' : nh_N → Nat → Int32) (R' : nh_N → Nat → Option nh_N) (H1 : Heap) (locs1 : List Loc), post v S' g' I' R' → nh_S D im_cl im_sk cA A H0 S' g' I' R' H1 locs1 → W p l e Rm s m args below meth c H1 locs1 (cells + mc) (slots + ms) Q (F0 m (pc + 3) ls (v.toList ++ rest))) : W p l e Rm s m args below meth c H locs cells slots Q (F0 m pc ls st0) := nh_callV (tys := im_tys cA) (T := qT6) (N := 28) ⟨hx, hb, hml, hown, ht⟩ hM (cwV 1 ht (gd_V wcX6_held hl wiX6_held weX6_held wz6) rfl rfl rfl (by decide +kernel) hR) (im_Kok D cA) hK hK.1 hw hn hg rfl hlen hsz hst hrm hdg hfit kk
theorem kcX6_held_2 {nm : nh_N} (hl : Cond.methodLink own index yX6_held ∈ im_ws) (hM : im_M l D cA yX6_held vX6_held fr lo mc ms (.ref b :: As) S g I R post) (hx : p.tables.exec = Jvm.exec) (hb : c.code = cc) (hml : c.maxLocals = nL) (ht : ∀ w ∈ im_ws, w.before args s = true) (hown : s.vm.findClass own = some m.cls) (hK : im_K D cA s) (hw : nh_S D im_cl im_sk cA A H0 S g I R H locs) (hn : S nm = some (0, 6)) (hg : g nm = b) (hlen : As.length = 1) (hsz : ls.size = nL) (hst : st0 = As.reverse ++ .ref b :: rest) (hrm : (rest.map fun v => v.category).sum ≤ 8) (hR : fr + 1 ≤ Rm.frames ∧ 8 + (2 + 11) + lo ≤ Rm.locals) (hfit : cells + mc ≤ Rm.cells ∧ slots + ms ≤ Rm.slots) (hdg : decode cc pc = .ok (.invokevirtual index, 3)) (kk : ∀ (v : Option Value) (S' : nh_N → Option nh_C) (g' : nh_N → Nat) (I' : nh_N → Nat → Int32) (R' : nh_N → Nat → Option nh_N) (H1 : Heap) (locs1 : List Loc), post v S' g' I' R' → nh_S D im_cl im_sk cA A H0 S' g' I' R' H1 locs1 → (∀ q, q < H.size → ¬ nh_A S g H.size q → H1[q]? = H[q]?) → (∀ n c, S' n = some c → nh_A S g H.size (g' n)) → W p l e Rm s m args below meth c H1 locs1 (cells + mc) (slots + ms) Q (F0 m (pc + 3) ls (v.toList ++ rest))) : W p l e Rm s m args below meth c H locs cells slots Q (F0 m pc ls st0) := nh_callV2 (tys := im_tys cA) (T := qT6) (N := 28) ⟨hx, hb, hml, hown, ht⟩ hM (cwV 1 ht (gd_V wcX6_held hl wiX6_held weX6_held wz6) rfl rfl rfl (by decide +kernel) hR) (im_Kok D cA) hK hK.1 hw hn hg rfl hlen hsz hst hrm hdg hfit kk
theorem kcX6_used {nm : nh_N} (hl : Cond.methodLink own index yX6_used ∈ im_ws) (hM : im_M l D cA yX6_used vX6_used fr lo mc ms (.ref b :: As) S g I R post) (hx : p.tables.exec = Jvm.exec) (hb : c.code = cc) (hml : c.maxLocals = nL) (ht : ∀ w ∈ im_ws, w.before args s = true) (hown : s.vm.findClass own = some m.cls) (hK : im_K D cA s) (hw : nh_S D im_cl im_sk cA A H0 S g I R H locs) (hn : S nm = some (0, 6)) (hg : g nm = b) (hlen : As.length = 2) (hsz : ls.size = nL) (hst : st0 = As.reverse ++ .ref b :: rest) (hrm : (rest.map fun v => v.category).sum ≤ 8) (hR : fr + 1 ≤ Rm.frames ∧ 8 + (3 + 11) + lo ≤ Rm.locals) (hfit : cells + mc ≤ Rm.cells ∧ slots + ms ≤ Rm.slots) (hdg : decode cc pc = .ok (.invokevirtual index, 3)) (kk : ∀ (v : Option Value) (S' : nh_N → Option nh_C) (g' : nh_N → Nat) (I' : nh_N → Nat → Int32) (R' : nh_N → Nat → Option nh_N) (H1 : Heap) (locs1 : List Loc), post v S' g' I' R' → nh_S D im_cl im_sk cA A H0 S' g' I' R' H1 locs1 → W p l e Rm s m args below meth c H1 locs1 (cells + mc) (slots + ms) Q (F0 m (pc + 3) ls (v.toList ++ rest))) : W p l e Rm s m args below meth c H locs cells slots Q (F0 m pc ls st0) := nh_callV (tys := im_tys cA) (T := qT6) (N := 28) ⟨hx, hb, hml, hown, ht⟩ hM (cwV 2 ht (gd_V wcX6_used hl wiX6_used weX6_used wz6) rfl rfl rfl (by decide +kernel) hR) (im_Kok D cA) hK hK.1 hw hn hg rfl hlen hsz hst hrm hdg hfit kk
theorem kcX6_used_2 {nm : nh_N} (hl : Cond.methodLink own index yX6_used ∈ im_ws) (hM : im_M l D cA yX6_used vX6_used fr lo mc ms (.ref b :: As) S g I R post) (hx : p.tables.exec = Jvm.exec) (hb : c.code = cc) (hml : c.maxLocals = nL) (ht : ∀ w ∈ im_ws, w.before args s = true) (hown : s.vm.findClass own = some m.cls) (hK : im_K D cA s) (hw : nh_S D im_cl im_sk cA A H0 S g I R H locs) (hn : S nm = some (0, 6)) (hg : g nm = b) (hlen : As.length = 2) (hsz : ls.size = nL) (hst : st0 = As.reverse ++ .ref b :: rest) (hrm : (rest.map fun v => v.category).sum ≤ 8) (hR : fr + 1 ≤ Rm.frames ∧ 8 + (3 + 11) + lo ≤ Rm.locals) (hfit : cells + mc ≤ Rm.cells ∧ slots + ms ≤ Rm.slots) (hdg : decode cc pc = .ok (.invokevirtual index, 3)) (kk : ∀ (v : Option Value) (S' : nh_N → Option nh_C) (g' : nh_N → Nat) (I' : nh_N → Nat → Int32) (R' : nh_N → Nat → Option nh_N) (H1 : Heap) (locs1 : List Loc), post v S' g' I' R' → nh_S D im_cl im_sk cA A H0 S' g' I' R' H1 locs1 → (∀ q, q < H.size → ¬ nh_A S g H.size q → H1[q]? = H[q]?) → (∀ n c, S' n = some c → nh_A S g H.size (g' n)) → W p l e Rm s m args below meth c H1 locs1 (cells + mc) (slots + ms) Q (F0 m (pc + 3) ls (v.toList ++ rest))) : W p l e Rm s m args below meth c H locs cells slots Q (F0 m pc ls st0) := nh_callV2 (tys := im_tys cA) (T := qT6) (N := 28) ⟨hx, hb, hml, hown, ht⟩ hM (cwV 2 ht (gd_V wcX6_used hl wiX6_used weX6_used wz6) rfl rfl rfl (by decide +kernel) hR) (im_Kok D cA) hK hK.1 hw hn hg rfl hlen hsz hst hrm hdg hfit kk
theorem kcX6_markOn {nm : nh_N} (hl : Cond.methodLink own index yX6_markOn ∈ im_ws) (hM : im_M l D cA yX6_markOn vX6_markOn fr lo mc ms (.ref b :: As) S g I R post) (hx : p.tables.exec = Jvm.exec) (hb : c.code = cc) (hml : c.maxLocals = nL) (ht : ∀ w ∈ im_ws, w.before args s = true) (hown : s.vm.findClass own = some m.cls) (hK : im_K D cA s) (hw : nh_S D im_cl im_sk cA A H0 S g I R H locs) (hn : S nm = some (0, 6)) (hg : g nm = b) (hlen : As.length = 3) (hsz : ls.size = nL) (hst : st0 = As.reverse ++ .ref b :: rest) (hrm : (rest.map fun v => v.category).sum ≤ 8) (hR : fr + 1 ≤ Rm.frames ∧ 8 + (6 + 11) + lo ≤ Rm.locals) (hfit : cells + mc ≤ Rm.cells ∧ slots + ms ≤ Rm.slots) (hdg : decode cc pc = .ok (.invokevirtual index, 3)) (kk : ∀ (v : Option Value) (S' : nh_N → Option nh_C) (g' : nh_N → Nat) (I' : nh_N → Nat → Int32) (R' : nh_N → Nat → Option nh_N) (H1 : Heap) (locs1 : List Loc), post v S' g' I' R' → nh_S D im_cl im_sk cA A H0 S' g' I' R' H1 locs1 → W p l e Rm s m args below meth c H1 locs1 (cells + mc) (slots + ms) Q (F0 m (pc + 3) ls (v.toList ++ rest))) : W p l e Rm s m args below meth c H locs cells slots Q (F0 m pc ls st0) := nh_callV (tys := im_tys cA) (T := qT6) (N := 28) ⟨hx, hb, hml, hown, ht⟩ hM (cwV 3 ht (gd_V wcX6_markOn hl wiX6_markOn weX6_markOn wz6) rfl rfl rfl (by decide +kernel) hR) (im_Kok D cA) hK hK.1 hw hn hg rfl hlen hsz hst hrm hdg hfit kk
theorem kcX6_markOn_2 {nm : nh_N} (hl : Cond.methodLink own index yX6_markOn ∈ im_ws) (hM : im_M l D cA yX6_markOn vX6_markOn fr lo mc ms (.ref b :: As) S g I R post) (hx : p.tables.exec = Jvm.exec) (hb : c.code = cc) (hml : c.maxLocals = nL) (ht : ∀ w ∈ im_ws, w.before args s = true) (hown : s.vm.findClass own = some m.cls) (hK : im_K D cA s) (hw : nh_S D im_cl im_sk cA A H0 S g I R H locs) (hn : S nm = some (0, 6)) (hg : g nm = b) (hlen : As.length = 3) (hsz : ls.size = nL) (hst : st0 = As.reverse ++ .ref b :: rest) (hrm : (rest.map fun v => v.category).sum ≤ 8) (hR : fr + 1 ≤ Rm.frames ∧ 8 + (6 + 11) + lo ≤ Rm.locals) (hfit : cells + mc ≤ Rm.cells ∧ slots + ms ≤ Rm.slots) (hdg : decode cc pc = .ok (.invokevirtual index, 3)) (kk : ∀ (v : Option Value) (S' : nh_N → Option nh_C) (g' : nh_N → Nat) (I' : nh_N → Nat → Int32) (R' : nh_N → Nat → Option nh_N) (H1 : Heap) (locs1 : List Loc), post v S' g' I' R' → nh_S D im_cl im_sk cA A H0 S' g' I' R' H1 locs1 → (∀ q, q < H.size → ¬ nh_A S g H.size q → H1[q]? = H[q]?) → (∀ n c, S' n = some c → nh_A S g H.size (g' n)) → W p l e Rm s m args below meth c H1 locs1 (cells + mc) (slots + ms) Q (F0 m (pc + 3) ls (v.toList ++ rest))) : W p l e Rm s m args below meth c H locs cells slots Q (F0 m pc ls st0) := nh_callV2 (tys := im_tys cA) (T := qT6) (N := 28) ⟨hx, hb, hml, hown, ht⟩ hM (cwV 3 ht (gd_V wcX6_markOn hl wiX6_markOn weX6_markOn wz6) rfl rfl rfl (by decide +kernel) hR) (im_Kok D cA) hK hK.1 hw hn hg rfl hlen hsz hst hrm hdg hfit kk
theorem kcX6_lastBefore {nm : nh_N} (hl : Cond.methodLink own index yX6_lastBefore ∈ im_ws) (hM : im_M l D cA yX6_lastBefore vX6_lastBefore fr lo mc ms (.ref b :: As) S g I R post) (hx : p.tables.exec = Jvm.exec) (hb : c.code = cc) (hml : c.maxLocals = nL) (ht : ∀ w ∈ im_ws, w.before args s = true) (hown : s.vm.findClass own = some m.cls) (hK : im_K D cA s) (hw : nh_S D im_cl im_sk cA A H0 S g I R H locs) (hn : S nm = some (0, 6)) (hg : g nm = b) (hlen : As.length = 2) (hsz : ls.size = nL) (hst : st0 = As.reverse ++ .ref b :: rest) (hrm : (rest.map fun v => v.category).sum ≤ 8) (hR : fr + 1 ≤ Rm.frames ∧ 8 + (5 + 11) + lo ≤ Rm.locals) (hfit : cells + mc ≤ Rm.cells ∧ slots + ms ≤ Rm.slots) (hdg : decode cc pc = .ok (.invokevirtual index, 3)) (kk : ∀ (v : Option Value) (S' : nh_N → Option nh_C) (g' : nh_N → Nat) (I' : nh_N → Nat → Int32) (R' : nh_N → Nat → Option nh_N) (H1 : Heap) (locs1 : List Loc), post v S' g' I' R' → nh_S D im_cl im_sk cA A H0 S' g' I' R' H1 locs1 → W p l e Rm s m args below meth c H1 locs1 (cells + mc) (slots + ms) Q (F0 m (pc + 3) ls (v.toList ++ rest))) : W p l e Rm s m args below meth c H locs cells slots Q (F0 m pc ls st0) := nh_callV (tys := im_tys cA) (T := qT6) (N := 28) ⟨hx, hb, hml, hown, ht⟩ hM (cwV 2 ht (gd_V wcX6_lastBefore hl wiX6_lastBefore weX6_lastBefore wz6) rfl rfl rfl (by decide +kernel) hR) (im_Kok D cA) hK hK.1 hw hn hg rfl hlen hsz hst hrm hdg hfit kk
theorem kcX6_lastBefore_2 {nm : nh_N} (hl : Cond.methodLink own index yX6_lastBefore ∈ im_ws) (hM : im_M l D cA yX6_lastBefore vX6_lastBefore fr lo mc ms (.ref b :: As) S g I R post) (hx : p.tables.exec = Jvm.exec) (hb : c.code = cc) (hml : c.maxLocals = nL) (ht : ∀ w ∈ im_ws, w.before args s = true) (hown : s.vm.findClass own = some m.cls) (hK : im_K D cA s) (hw : nh_S D im_cl im_sk cA A H0 S g I R H locs) (hn : S nm = some (0, 6)) (hg : g nm = b) (hlen : As.length = 2) (hsz : ls.size = nL) (hst : st0 = As.reverse ++ .ref b :: rest) (hrm : (rest.map fun v => v.category).sum ≤ 8) (hR : fr + 1 ≤ Rm.frames ∧ 8 + (5 + 11) + lo ≤ Rm.locals) (hfit : cells + mc ≤ Rm.cells ∧ slots + ms ≤ Rm.slots) (hdg : decode cc pc = .ok (.invokevirtual index, 3)) (kk : ∀ (v : Option Value) (S' : nh_N → Option nh_C) (g' : nh_N → Nat) (I' : nh_N → Nat → Int32) (R' : nh_N → Nat → Option nh_N) (H1 : Heap) (locs1 : List Loc), post v S' g' I' R' → nh_S D im_cl im_sk cA A H0 S' g' I' R' H1 locs1 → (∀ q, q < H.size → ¬ nh_A S g H.size q → H1[q]? = H[q]?) → (∀ n c, S' n = some c → nh_A S g H.size (g' n)) → W p l e Rm s m args below meth c H1 locs1 (cells + mc) (slots + ms) Q (F0 m (pc + 3) ls (v.toList ++ rest))) : W p l e Rm s m args below meth c H locs cells slots Q (F0 m pc ls st0) := nh_callV2 (tys := im_tys cA) (T := qT6) (N := 28) ⟨hx, hb, hml, hown, ht⟩ hM (cwV 2 ht (gd_V wcX6_lastBefore hl wiX6_lastBefore weX6_lastBefore wz6) rfl rfl rfl (by decide +kernel) hR) (im_Kok D cA) hK hK.1 hw hn hg rfl hlen hsz hst hrm hdg hfit kk
theorem kcX6_seen {nm : nh_N} (hl : Cond.methodLink own index yX6_seen ∈ im_ws) (hM : im_M l D cA yX6_seen vX6_seen fr lo mc ms (.ref b :: As) S g I R post) (hx : p.tables.exec = Jvm.exec) (hb : c.code = cc) (hml : c.maxLocals = nL) (ht : ∀ w ∈ im_ws, w.before args s = true) (hown : s.vm.findClass own = some m.cls) (hK : im_K D cA s) (hw : nh_S D im_cl im_sk cA A H0 S g I R H locs) (hn : S nm = some (0, 6)) (hg : g nm = b) (hlen : As.length = 3) (hsz : ls.size = nL) (hst : st0 = As.reverse ++ .ref b :: rest) (hrm : (rest.map fun v => v.category).sum ≤ 8) (hR : fr + 1 ≤ Rm.frames ∧ 8 + (5 + 11) + lo ≤ Rm.locals) (hfit : cells + mc ≤ Rm.cells ∧ slots + ms ≤ Rm.slots) (hdg : decode cc pc = .ok (.invokevirtual index, 3)) (kk : ∀ (v : Option Value) (S' : nh_N → Option nh_C) (g' : nh_N → Nat) (I' : nh_N → Nat → Int32) (R' : nh_N → Nat → Option nh_N) (H1 : Heap) (locs1 : List Loc), post v S' g' I' R' → nh_S D im_cl im_sk cA A H0 S' g' I' R' H1 locs1 → W p l e Rm s m args below meth c H1 locs1 (cells + mc) (slots + ms) Q (F0 m (pc + 3) ls (v.toList ++ rest))) : W p l e Rm s m args below meth c H locs cells slots Q (F0 m pc ls st0) := nh_callV (tys := im_tys cA) (T := qT6) (N := 28) ⟨hx, hb, hml, hown, ht⟩ hM (cwV 3 ht (gd_V wcX6_seen hl wiX6_seen weX6_seen wz6) rfl rfl rfl (by decide +kernel) hR) (im_Kok D cA) hK hK.1 hw hn hg rfl hlen hsz hst hrm hdg hfit kk
theorem kcX6_seen_2 {nm : nh_N} (hl : Cond.methodLink own index yX6_seen ∈ im_ws) (hM : im_M l D cA yX6_seen vX6_seen fr lo mc ms (.ref b :: As) S g I R post) (hx : p.tables.exec = Jvm.exec) (hb : c.code = cc) (hml : c.maxLocals = nL) (ht : ∀ w ∈ im_ws, w.before args s = true) (hown : s.vm.findClass own = some m.cls) (hK : im_K D cA s) (hw : nh_S D im_cl im_sk cA A H0 S g I R H locs) (hn : S nm = some (0, 6)) (hg : g nm = b) (hlen : As.length = 3) (hsz : ls.size = nL) (hst : st0 = As.reverse ++ .ref b :: rest) (hrm : (rest.map fun v => v.category).sum ≤ 8) (hR : fr + 1 ≤ Rm.frames ∧ 8 + (5 + 11) + lo ≤ Rm.locals) (hfit : cells + mc ≤ Rm.cells ∧ slots + ms ≤ Rm.slots) (hdg : decode cc pc = .ok (.invokevirtual index, 3)) (kk : ∀ (v : Option Value) (S' : nh_N → Option nh_C) (g' : nh_N → Nat) (I' : nh_N → Nat → Int32) (R' : nh_N → Nat → Option nh_N) (H1 : Heap) (locs1 : List Loc), post v S' g' I' R' → nh_S D im_cl im_sk cA A H0 S' g' I' R' H1 locs1 → (∀ q, q < H.size → ¬ nh_A S g H.size q → H1[q]? = H[q]?) → (∀ n c, S' n = some c → nh_A S g H.size (g' n)) → W p l e Rm s m args below meth c H1 locs1 (cells + mc) (slots + ms) Q (F0 m (pc + 3) ls (v.toList ++ rest))) : W p l e Rm s m args below meth c H locs cells slots Q (F0 m pc ls st0) := nh_callV2 (tys := im_tys cA) (T := qT6) (N := 28) ⟨hx, hb, hml, hown, ht⟩ hM (cwV 3 ht (gd_V wcX6_seen hl wiX6_seen weX6_seen wz6) rfl rfl rfl (by decide +kernel) hR) (im_Kok D cA) hK hK.1 hw hn hg rfl hlen hsz hst hrm hdg hfit kk
theorem kcX6_count {nm : nh_N} (hl : Cond.methodLink own index yX6_count ∈ im_ws) (hM : im_M l D cA yX6_count vX6_count fr lo mc ms (.ref b :: As) S g I R post) (hx : p.tables.exec = Jvm.exec) (hb : c.code = cc) (hml : c.maxLocals = nL) (ht : ∀ w ∈ im_ws, w.before args s = true) (hown : s.vm.findClass own = some m.cls) (hK : im_K D cA s) (hw : nh_S D im_cl im_sk cA A H0 S g I R H locs) (hn : S nm = some (0, 6)) (hg : g nm = b) (hlen : As.length = 1) (hsz : ls.size = nL) (hst : st0 = As.reverse ++ .ref b :: rest) (hrm : (rest.map fun v => v.category).sum ≤ 8) (hR : fr + 1 ≤ Rm.frames ∧ 8 + (3 + 11) + lo ≤ Rm.locals) (hfit : cells + mc ≤ Rm.cells ∧ slots + ms ≤ Rm.slots) (hdg : decode cc pc = .ok (.invokevirtual index, 3)) (kk : ∀ (v : Option Value) (S' : nh_N → Option nh_C) (g' : nh_N → Nat) (I' : nh_N → Nat → Int32) (R' : nh_N → Nat → Option nh_N) (H1 : Heap) (locs1 : List Loc), post v S' g' I' R' → nh_S D im_cl im_sk cA A H0 S' g' I' R' H1 locs1 → W p l e Rm s m args below meth c H1 locs1 (cells + mc) (slots + ms) Q (F0 m (pc + 3) ls (v.toList ++ rest))) : W p l e Rm s m args below meth c H locs cells slots Q (F0 m pc ls st0) := nh_callV (tys := im_tys cA) (T := qT6) (N := 28) ⟨hx, hb, hml, hown, ht⟩ hM (cwV 1 ht (gd_V wcX6_count hl wiX6_count weX6_count wz6) rfl rfl rfl (by decide +kernel) hR) (im_Kok D cA) hK hK.1 hw hn hg rfl hlen hsz hst hrm hdg hfit kk
theorem kcX6_count_2 {nm : nh_N} (hl : Cond.methodLink own index yX6_count ∈ im_ws) (hM : im_M l D cA yX6_count vX6_count fr lo mc ms (.ref b :: As) S g I R post) (hx : p.tables.exec = Jvm.exec) (hb : c.code = cc) (hml : c.maxLocals = nL) (ht : ∀ w ∈ im_ws, w.before args s = true) (hown : s.vm.findClass own = some m.cls) (hK : im_K D cA s) (hw : nh_S D im_cl im_sk cA A H0 S g I R H locs) (hn : S nm = some (0, 6)) (hg : g nm = b) (hlen : As.length = 1) (hsz : ls.size = nL) (hst : st0 = As.reverse ++ .ref b :: rest) (hrm : (rest.map fun v => v.category).sum ≤ 8) (hR : fr + 1 ≤ Rm.frames ∧ 8 + (3 + 11) + lo ≤ Rm.locals) (hfit : cells + mc ≤ Rm.cells ∧ slots + ms ≤ Rm.slots) (hdg : decode cc pc = .ok (.invokevirtual index, 3)) (kk : ∀ (v : Option Value) (S' : nh_N → Option nh_C) (g' : nh_N → Nat) (I' : nh_N → Nat → Int32) (R' : nh_N → Nat → Option nh_N) (H1 : Heap) (locs1 : List Loc), post v S' g' I' R' → nh_S D im_cl im_sk cA A H0 S' g' I' R' H1 locs1 → (∀ q, q < H.size → ¬ nh_A S g H.size q → H1[q]? = H[q]?) → (∀ n c, S' n = some c → nh_A S g H.size (g' n)) → W p l e Rm s m args below meth c H1 locs1 (cells + mc) (slots + ms) Q (F0 m (pc + 3) ls (v.toList ++ rest))) : W p l e Rm s m args below meth c H locs cells slots Q (F0 m pc ls st0) := nh_callV2 (tys := im_tys cA) (T := qT6) (N := 28) ⟨hx, hb, hml, hown, ht⟩ hM (cwV 1 ht (gd_V wcX6_count hl wiX6_count weX6_count wz6) rfl rfl rfl (by decide +kernel) hR) (im_Kok D cA) hK hK.1 hw hn hg rfl hlen hsz hst hrm hdg hfit kk
theorem kcX0_init (hl : Cond.methodLink own index yX0_init ∈ im_ws) (hM : im_M l D cA yX0_init vX0_init fr lo mc ms (.ref b :: As) S g I R post) (hx : p.tables.exec = Jvm.exec) (hb : c.code = cc) (hml : c.maxLocals = nL) (ht : ∀ w ∈ im_ws, w.before args s = true) (hown : s.vm.findClass own = some m.cls) (hK : im_K D cA s) (hw : nh_S D im_cl im_sk cA A H0 S g I R H locs) (hlen : As.length = 4) (hsz : ls.size = nL) (hst : st0 = As.reverse ++ .ref b :: rest) (hrm : (rest.map fun v => v.category).sum ≤ 8) (hR : fr + 1 ≤ Rm.frames ∧ 8 + (5 + 11) + lo ≤ Rm.locals) (hfit : cells + mc ≤ Rm.cells ∧ slots + ms ≤ Rm.slots) (hdg : decode cc pc = .ok (.invokespecial index, 3)) (kk : ∀ (v : Option Value) (S' : nh_N → Option nh_C) (g' : nh_N → Nat) (I' : nh_N → Nat → Int32) (R' : nh_N → Nat → Option nh_N) (H1 : Heap) (locs1 : List Loc), post v S' g' I' R' → nh_S D im_cl im_sk cA A H0 S' g' I' R' H1 locs1 → (∀ q, q < H.size → ¬ nh_A S g H.size q → H1[q]? = H[q]?) → (∀ n c, S' n = some c → nh_A S g H.size (g' n)) → W p l e Rm s m args below meth c H1 locs1 (cells + mc) (slots + ms) Q (F0 m (pc + 3) ls (v.toList ++ rest))) : W p l e Rm s m args below meth c H locs cells slots Q (F0 m pc ls st0) := nh_callI ⟨hx, hb, hml, hown, ht⟩ hM (cwI 4 ht (gd_ws wcX0_init) rfl rfl rfl (ht _ wz0) (ht _ hl) (ht _ wiX0_init) rfl (by decide +kernel) hR) (im_Kok D cA) hK hw hlen hsz hst hrm hdg hfit kk
theorem kcX0_isTakenBack {nm : nh_N} (hl : Cond.methodLink own index yX0_isTakenBack ∈ im_ws) (hM : im_M l D cA yX0_isTakenBack vX0_isTakenBack fr lo mc ms (.ref b :: As) S g I R post) (hx : p.tables.exec = Jvm.exec) (hb : c.code = cc) (hml : c.maxLocals = nL) (ht : ∀ w ∈ im_ws, w.before args s = true) (hown : s.vm.findClass own = some m.cls) (hK : im_K D cA s) (hw : nh_S D im_cl im_sk cA A H0 S g I R H locs) (hn : S nm = some (0, 0)) (hg : g nm = b) (hlen : As.length = 0) (hsz : ls.size = nL) (hst : st0 = As.reverse ++ .ref b :: rest) (hrm : (rest.map fun v => v.category).sum ≤ 8) (hR : fr + 1 ≤ Rm.frames ∧ 8 + (1 + 11) + lo ≤ Rm.locals) (hfit : cells + mc ≤ Rm.cells ∧ slots + ms ≤ Rm.slots) (hdg : decode cc pc = .ok (.invokevirtual index, 3)) (kk : ∀ (v : Option Value) (S' : nh_N → Option nh_C) (g' : nh_N → Nat) (I' : nh_N → Nat → Int32) (R' : nh_N → Nat → Option nh_N) (H1 : Heap) (locs1 : List Loc), post v S' g' I' R' → nh_S D im_cl im_sk cA A H0 S' g' I' R' H1 locs1 → W p l e Rm s m args below meth c H1 locs1 (cells + mc) (slots + ms) Q (F0 m (pc + 3) ls (v.toList ++ rest))) : W p l e Rm s m args below meth c H locs cells slots Q (F0 m pc ls st0) := nh_callV (tys := im_tys cA) (T := qT0) (N := 8) ⟨hx, hb, hml, hown, ht⟩ hM (cwV 0 ht (gd_V wcX0_isTakenBack hl wiX0_isTakenBack weX0_isTakenBack wz0) rfl rfl rfl (by decide +kernel) hR) (im_Kok D cA) hK hK.1 hw hn hg rfl hlen hsz hst hrm hdg hfit kk
theorem kcX0_addPart {nm : nh_N} (hl : Cond.methodLink own index yX0_addPart ∈ im_ws) (hM : im_M l D cA yX0_addPart vX0_addPart fr lo mc ms (.ref b :: As) S g I R post) (hx : p.tables.exec = Jvm.exec) (hb : c.code = cc) (hml : c.maxLocals = nL) (ht : ∀ w ∈ im_ws, w.before args s = true) (hown : s.vm.findClass own = some m.cls) (hK : im_K D cA s) (hw : nh_S D im_cl im_sk cA A H0 S g I R H locs) (hn : S nm = some (0, 0)) (hg : g nm = b) (hlen : As.length = 2) (hsz : ls.size = nL) (hst : st0 = As.reverse ++ .ref b :: rest) (hrm : (rest.map fun v => v.category).sum ≤ 8) (hR : fr + 1 ≤ Rm.frames ∧ 8 + (3 + 11) + lo ≤ Rm.locals) (hfit : cells + mc ≤ Rm.cells ∧ slots + ms ≤ Rm.slots) (hdg : decode cc pc = .ok (.invokevirtual index, 3)) (kk : ∀ (v : Option Value) (S' : nh_N → Option nh_C) (g' : nh_N → Nat) (I' : nh_N → Nat → Int32) (R' : nh_N → Nat → Option nh_N) (H1 : Heap) (locs1 : List Loc), post v S' g' I' R' → nh_S D im_cl im_sk cA A H0 S' g' I' R' H1 locs1 → W p l e Rm s m args below meth c H1 locs1 (cells + mc) (slots + ms) Q (F0 m (pc + 3) ls (v.toList ++ rest))) : W p l e Rm s m args below meth c H locs cells slots Q (F0 m pc ls st0) := nh_callV (tys := im_tys cA) (T := qT0) (N := 8) ⟨hx, hb, hml, hown, ht⟩ hM (cwV 2 ht (gd_V wcX0_addPart hl wiX0_addPart weX0_addPart wz0) rfl rfl rfl (by decide +kernel) hR) (im_Kok D cA) hK hK.1 hw hn hg rfl hlen hsz hst hrm hdg hfit kk
theorem kcX1_init (hl : Cond.methodLink own index yX1_init ∈ im_ws) (hM : im_M l D cA yX1_init vX1_init fr lo mc ms (.ref b :: As) S g I R post) (hx : p.tables.exec = Jvm.exec) (hb : c.code = cc) (hml : c.maxLocals = nL) (ht : ∀ w ∈ im_ws, w.before args s = true) (hown : s.vm.findClass own = some m.cls) (hK : im_K D cA s) (hw : nh_S D im_cl im_sk cA A H0 S g I R H locs) (hlen : As.length = 3) (hsz : ls.size = nL) (hst : st0 = As.reverse ++ .ref b :: rest) (hrm : (rest.map fun v => v.category).sum ≤ 8) (hR : fr + 1 ≤ Rm.frames ∧ 8 + (4 + 11) + lo ≤ Rm.locals) (hfit : cells + mc ≤ Rm.cells ∧ slots + ms ≤ Rm.slots) (hdg : decode cc pc = .ok (.invokespecial index, 3)) (kk : ∀ (v : Option Value) (S' : nh_N → Option nh_C) (g' : nh_N → Nat) (I' : nh_N → Nat → Int32) (R' : nh_N → Nat → Option nh_N) (H1 : Heap) (locs1 : List Loc), post v S' g' I' R' → nh_S D im_cl im_sk cA A H0 S' g' I' R' H1 locs1 → (∀ q, q < H.size → ¬ nh_A S g H.size q → H1[q]? = H[q]?) → (∀ n c, S' n = some c → nh_A S g H.size (g' n)) → W p l e Rm s m args below meth c H1 locs1 (cells + mc) (slots + ms) Q (F0 m (pc + 3) ls (v.toList ++ rest))) : W p l e Rm s m args below meth c H locs cells slots Q (F0 m pc ls st0) := nh_callI ⟨hx, hb, hml, hown, ht⟩ hM (cwI 3 ht (gd_ws wcX1_init) rfl rfl rfl (ht _ wz1) (ht _ hl) (ht _ wiX1_init) rfl (by decide +kernel) hR) (im_Kok D cA) hK hw hlen hsz hst hrm hdg hfit kk
theorem kcX1_startPage {nm : nh_N} (hl : Cond.methodLink own index yX1_startPage ∈ im_ws) (hM : im_M l D cA yX1_startPage vX1_startPage fr lo mc ms (.ref b :: As) S g I R post) (hx : p.tables.exec = Jvm.exec) (hb : c.code = cc) (hml : c.maxLocals = nL) (ht : ∀ w ∈ im_ws, w.before args s = true) (hown : s.vm.findClass own = some m.cls) (hK : im_K D cA s) (hw : nh_S D im_cl im_sk cA A H0 S g I R H locs) (hn : S nm = some (0, 1)) (hg : g nm = b) (hlen : As.length = 0) (hsz : ls.size = nL) (hst : st0 = As.reverse ++ .ref b :: rest) (hrm : (rest.map fun v => v.category).sum ≤ 8) (hR : fr + 1 ≤ Rm.frames ∧ 8 + (1 + 11) + lo ≤ Rm.locals) (hfit : cells + mc ≤ Rm.cells ∧ slots + ms ≤ Rm.slots) (hdg : decode cc pc = .ok (.invokevirtual index, 3)) (kk : ∀ (v : Option Value) (S' : nh_N → Option nh_C) (g' : nh_N → Nat) (I' : nh_N → Nat → Int32) (R' : nh_N → Nat → Option nh_N) (H1 : Heap) (locs1 : List Loc), post v S' g' I' R' → nh_S D im_cl im_sk cA A H0 S' g' I' R' H1 locs1 → W p l e Rm s m args below meth c H1 locs1 (cells + mc) (slots + ms) Q (F0 m (pc + 3) ls (v.toList ++ rest))) : W p l e Rm s m args below meth c H locs cells slots Q (F0 m pc ls st0) := nh_callV (tys := im_tys cA) (T := qT1) (N := 9) ⟨hx, hb, hml, hown, ht⟩ hM (cwV 0 ht (gd_V wcX1_startPage hl wiX1_startPage weX1_startPage wz1) rfl rfl rfl (by decide +kernel) hR) (im_Kok D cA) hK hK.1 hw hn hg rfl hlen hsz hst hrm hdg hfit kk
theorem kcX1_mayCut {nm : nh_N} (hl : Cond.methodLink own index yX1_mayCut ∈ im_ws) (hM : im_M l D cA yX1_mayCut vX1_mayCut fr lo mc ms (.ref b :: As) S g I R post) (hx : p.tables.exec = Jvm.exec) (hb : c.code = cc) (hml : c.maxLocals = nL) (ht : ∀ w ∈ im_ws, w.before args s = true) (hown : s.vm.findClass own = some m.cls) (hK : im_K D cA s) (hw : nh_S D im_cl im_sk cA A H0 S g I R H locs) (hn : S nm = some (0, 1)) (hg : g nm = b) (hlen : As.length = 2) (hsz : ls.size = nL) (hst : st0 = As.reverse ++ .ref b :: rest) (hrm : (rest.map fun v => v.category).sum ≤ 8) (hR : fr + 1 ≤ Rm.frames ∧ 8 + (3 + 11) + lo ≤ Rm.locals) (hfit : cells + mc ≤ Rm.cells ∧ slots + ms ≤ Rm.slots) (hdg : decode cc pc = .ok (.invokevirtual index, 3)) (kk : ∀ (v : Option Value) (S' : nh_N → Option nh_C) (g' : nh_N → Nat) (I' : nh_N → Nat → Int32) (R' : nh_N → Nat → Option nh_N) (H1 : Heap) (locs1 : List Loc), post v S' g' I' R' → nh_S D im_cl im_sk cA A H0 S' g' I' R' H1 locs1 → W p l e Rm s m args below meth c H1 locs1 (cells + mc) (slots + ms) Q (F0 m (pc + 3) ls (v.toList ++ rest))) : W p l e Rm s m args below meth c H locs cells slots Q (F0 m pc ls st0) := nh_callV (tys := im_tys cA) (T := qT1) (N := 9) ⟨hx, hb, hml, hown, ht⟩ hM (cwV 2 ht (gd_V wcX1_mayCut hl wiX1_mayCut weX1_mayCut wz1) rfl rfl rfl (by decide +kernel) hR) (im_Kok D cA) hK hK.1 hw hn hg rfl hlen hsz hst hrm hdg hfit kk
theorem kcX1_nextNumber {nm : nh_N} (hl : Cond.methodLink own index yX1_nextNumber ∈ im_ws) (hM : im_M l D cA yX1_nextNumber vX1_nextNumber fr lo mc ms (.ref b :: As) S g I R post) (hx : p.tables.exec = Jvm.exec) (hb : c.code = cc) (hml : c.maxLocals = nL) (ht : ∀ w ∈ im_ws, w.before args s = true) (hown : s.vm.findClass own = some m.cls) (hK : im_K D cA s) (hw : nh_S D im_cl im_sk cA A H0 S g I R H locs) (hn : S nm = some (0, 1)) (hg : g nm = b) (hlen : As.length = 0) (hsz : ls.size = nL) (hst : st0 = As.reverse ++ .ref b :: rest) (hrm : (rest.map fun v => v.category).sum ≤ 8) (hR : fr + 1 ≤ Rm.frames ∧ 8 + (1 + 11) + lo ≤ Rm.locals) (hfit : cells + mc ≤ Rm.cells ∧ slots + ms ≤ Rm.slots) (hdg : decode cc pc = .ok (.invokevirtual index, 3)) (kk : ∀ (v : Option Value) (S' : nh_N → Option nh_C) (g' : nh_N → Nat) (I' : nh_N → Nat → Int32) (R' : nh_N → Nat → Option nh_N) (H1 : Heap) (locs1 : List Loc), post v S' g' I' R' → nh_S D im_cl im_sk cA A H0 S' g' I' R' H1 locs1 → W p l e Rm s m args below meth c H1 locs1 (cells + mc) (slots + ms) Q (F0 m (pc + 3) ls (v.toList ++ rest))) : W p l e Rm s m args below meth c H locs cells slots Q (F0 m pc ls st0) := nh_callV (tys := im_tys cA) (T := qT1) (N := 9) ⟨hx, hb, hml, hown, ht⟩ hM (cwV 0 ht (gd_V wcX1_nextNumber hl wiX1_nextNumber weX1_nextNumber wz1) rfl rfl rfl (by decide +kernel) hR) (im_Kok D cA) hK hK.1 hw hn hg rfl hlen hsz hst hrm hdg hfit kk
theorem kcX1_addMark {nm : nh_N} (hl : Cond.methodLink own index yX1_addMark ∈ im_ws) (hM : im_M l D cA yX1_addMark vX1_addMark fr lo mc ms (.ref b :: As) S g I R post) (hx : p.tables.exec = Jvm.exec) (hb : c.code = cc) (hml : c.maxLocals = nL) (ht : ∀ w ∈ im_ws, w.before args s = true) (hown : s.vm.findClass own = some m.cls) (hK : im_K D cA s) (hw : nh_S D im_cl im_sk cA A H0 S g I R H locs) (hn : S nm = some (0, 1)) (hg : g nm = b) (hlen : As.length = 2) (hsz : ls.size = nL) (hst : st0 = As.reverse ++ .ref b :: rest) (hrm : (rest.map fun v => v.category).sum ≤ 8) (hR : fr + 1 ≤ Rm.frames ∧ 8 + (3 + 11) + lo ≤ Rm.locals) (hfit : cells + mc ≤ Rm.cells ∧ slots + ms ≤ Rm.slots) (hdg : decode cc pc = .ok (.invokevirtual index, 3)) (kk : ∀ (v : Option Value) (S' : nh_N → Option nh_C) (g' : nh_N → Nat) (I' : nh_N → Nat → Int32) (R' : nh_N → Nat → Option nh_N) (H1 : Heap) (locs1 : List Loc), post v S' g' I' R' → nh_S D im_cl im_sk cA A H0 S' g' I' R' H1 locs1 → W p l e Rm s m args below meth c H1 locs1 (cells + mc) (slots + ms) Q (F0 m (pc + 3) ls (v.toList ++ rest))) : W p l e Rm s m args below meth c H locs cells slots Q (F0 m pc ls st0) := nh_callV (tys := im_tys cA) (T := qT1) (N := 9) ⟨hx, hb, hml, hown, ht⟩ hM (cwV 2 ht (gd_V wcX1_addMark hl wiX1_addMark weX1_addMark wz1) rfl rfl rfl (by decide +kernel) hR) (im_Kok D cA) hK hK.1 hw hn hg rfl hlen hsz hst hrm hdg hfit kk
theorem kcX1_topMark {nm : nh_N} (hl : Cond.methodLink own index yX1_topMark ∈ im_ws) (hM : im_M l D cA yX1_topMark vX1_topMark fr lo mc ms (.ref b :: As) S g I R post) (hx : p.tables.exec = Jvm.exec) (hb : c.code = cc) (hml : c.maxLocals = nL) (ht : ∀ w ∈ im_ws, w.before args s = true) (hown : s.vm.findClass own = some m.cls) (hK : im_K D cA s) (hw : nh_S D im_cl im_sk cA A H0 S g I R H locs) (hn : S nm = some (0, 1)) (hg : g nm = b) (hlen : As.length = 1) (hsz : ls.size = nL) (hst : st0 = As.reverse ++ .ref b :: rest) (hrm : (rest.map fun v => v.category).sum ≤ 8) (hR : fr + 1 ≤ Rm.frames ∧ 8 + (3 + 11) + lo ≤ Rm.locals) (hfit : cells + mc ≤ Rm.cells ∧ slots + ms ≤ Rm.slots) (hdg : decode cc pc = .ok (.invokevirtual index, 3)) (kk : ∀ (v : Option Value) (S' : nh_N → Option nh_C) (g' : nh_N → Nat) (I' : nh_N → Nat → Int32) (R' : nh_N → Nat → Option nh_N) (H1 : Heap) (locs1 : List Loc), post v S' g' I' R' → nh_S D im_cl im_sk cA A H0 S' g' I' R' H1 locs1 → W p l e Rm s m args below meth c H1 locs1 (cells + mc) (slots + ms) Q (F0 m (pc + 3) ls (v.toList ++ rest))) : W p l e Rm s m args below meth c H locs cells slots Q (F0 m pc ls st0) := nh_callV (tys := im_tys cA) (T := qT1) (N := 9) ⟨hx, hb, hml, hown, ht⟩ hM (cwV 1 ht (gd_V wcX1_topMark hl wiX1_topMark weX1_topMark wz1) rfl rfl rfl (by decide +kernel) hR) (im_Kok D cA) hK hK.1 hw hn hg rfl hlen hsz hst hrm hdg hfit kk
theorem kcX1_firstMark {nm : nh_N} (hl : Cond.methodLink own index yX1_firstMark ∈ im_ws) (hM : im_M l D cA yX1_firstMark vX1_firstMark fr lo mc ms (.ref b :: As) S g I R post) (hx : p.tables.exec = Jvm.exec) (hb : c.code = cc) (hml : c.maxLocals = nL) (ht : ∀ w ∈ im_ws, w.before args s = true) (hown : s.vm.findClass own = some m.cls) (hK : im_K D cA s) (hw : nh_S D im_cl im_sk cA A H0 S g I R H locs) (hn : S nm = some (0, 1)) (hg : g nm = b) (hlen : As.length = 1) (hsz : ls.size = nL) (hst : st0 = As.reverse ++ .ref b :: rest) (hrm : (rest.map fun v => v.category).sum ≤ 8) (hR : fr + 1 ≤ Rm.frames ∧ 8 + (2 + 11) + lo ≤ Rm.locals) (hfit : cells + mc ≤ Rm.cells ∧ slots + ms ≤ Rm.slots) (hdg : decode cc pc = .ok (.invokevirtual index, 3)) (kk : ∀ (v : Option Value) (S' : nh_N → Option nh_C) (g' : nh_N → Nat) (I' : nh_N → Nat → Int32) (R' : nh_N → Nat → Option nh_N) (H1 : Heap) (locs1 : List Loc), post v S' g' I' R' → nh_S D im_cl im_sk cA A H0 S' g' I' R' H1 locs1 → W p l e Rm s m args below meth c H1 locs1 (cells + mc) (slots + ms) Q (F0 m (pc + 3) ls (v.toList ++ rest))) : W p l e Rm s m args below meth c H locs cells slots Q (F0 m pc ls st0) := nh_callV (tys := im_tys cA) (T := qT1) (N := 9) ⟨hx, hb, hml, hown, ht⟩ hM (cwV 1 ht (gd_V wcX1_firstMark hl wiX1_firstMark weX1_firstMark wz1) rfl rfl rfl (by decide +kernel) hR) (im_Kok D cA) hK hK.1 hw hn hg rfl hlen hsz hst hrm hdg hfit kk
theorem kcX1_lastMark {nm : nh_N} (hl : Cond.methodLink own index yX1_lastMark ∈ im_ws) (hM : im_M l D cA yX1_lastMark vX1_lastMark fr lo mc ms (.ref b :: As) S g I R post) (hx : p.tables.exec = Jvm.exec) (hb : c.code = cc) (hml : c.maxLocals = nL) (ht : ∀ w ∈ im_ws, w.before args s = true) (hown : s.vm.findClass own = some m.cls) (hK : im_K D cA s) (hw : nh_S D im_cl im_sk cA A H0 S g I R H locs) (hn : S nm = some (0, 1)) (hg : g nm = b) (hlen : As.length = 1) (hsz : ls.size = nL) (hst : st0 = As.reverse ++ .ref b :: rest) (hrm : (rest.map fun v => v.category).sum ≤ 8) (hR : fr + 1 ≤ Rm.frames ∧ 8 + (2 + 11) + lo ≤ Rm.locals) (hfit : cells + mc ≤ Rm.cells ∧ slots + ms ≤ Rm.slots) (hdg : decode cc pc = .ok (.invokevirtual index, 3)) (kk : ∀ (v : Option Value) (S' : nh_N → Option nh_C) (g' : nh_N → Nat) (I' : nh_N → Nat → Int32) (R' : nh_N → Nat → Option nh_N) (H1 : Heap) (locs1 : List Loc), post v S' g' I' R' → nh_S D im_cl im_sk cA A H0 S' g' I' R' H1 locs1 → W p l e Rm s m args below meth c H1 locs1 (cells + mc) (slots + ms) Q (F0 m (pc + 3) ls (v.toList ++ rest))) : W p l e Rm s m args below meth c H locs cells slots Q (F0 m pc ls st0) := nh_callV (tys := im_tys cA) (T := qT1) (N := 9) ⟨hx, hb, hml, hown, ht⟩ hM (cwV 1 ht (gd_V wcX1_lastMark hl wiX1_lastMark weX1_lastMark wz1) rfl rfl rfl (by decide +kernel) hR) (im_Kok D cA) hK hK.1 hw hn hg rfl hlen hsz hst hrm hdg hfit kk
theorem kcX2_init (hM : im_M l D cA yX2_init vX2_init fr lo mc ms (.ref b :: As) S g I R post) (hx : p.tables.exec = Jvm.exec) (hb : c.code = cc) (hml : c.maxLocals = nL) (ht : ∀ w ∈ im_ws, w.before args s = true) (hown : s.vm.findClass own = some m.cls) (hK : im_K D cA s) (hw : nh_S D im_cl im_sk cA A H0 S g I R H locs) (hlen : As.length = 0) (hsz : ls.size = nL) (hst : st0 = As.reverse ++ .ref b :: rest) (hrm : (rest.map fun v => v.category).sum ≤ 8) (hR : fr + 1 ≤ Rm.frames ∧ 8 + (1 + 11) + lo ≤ Rm.locals) (hfit : cells + mc ≤ Rm.cells ∧ slots + ms ≤ Rm.slots) (ho : own = qR5) (hdg : decode cc pc = .ok (.invokespecial 29, 3)) (kk : ∀ (v : Option Value) (S' : nh_N → Option nh_C) (g' : nh_N → Nat) (I' : nh_N → Nat → Int32) (R' : nh_N → Nat → Option nh_N) (H1 : Heap) (locs1 : List Loc), post v S' g' I' R' → nh_S D im_cl im_sk cA A H0 S' g' I' R' H1 locs1 → W p l e Rm s m args below meth c H1 locs1 (cells + mc) (slots + ms) Q (F0 m (pc + 3) ls (v.toList ++ rest))) : W p l e Rm s m args below meth c H locs cells slots Q (F0 m pc ls st0) := by
  subst ho
  exact nh_call (va_runIN (As := As) (rest := rest) (host := qR5) ⟨hx, hb, hml, hown, ht⟩ (hM H.size) ⟨va_cnB 0 ht (gd_ws wcX2_init) rfl rfl rfl hK.2.2.2.2.2.1 (ht _ wz2) (by decide +kernel) hR, rfl, ht _ wiX2_init⟩ (nh_preS (As := .ref b :: As) hw (im_Kok D cA) hK) rfl hlen hsz hst (lv_room hrm) hdg hfit) hw kk
theorem kcX2_append {nm : nh_N} (hl : Cond.methodLink own index yX2_append ∈ im_ws) (hM : im_M l D cA yX2_append vX2_append fr lo mc ms (.ref b :: As) S g I R post) (hx : p.tables.exec = Jvm.exec) (hb : c.code = cc) (hml : c.maxLocals = nL) (ht : ∀ w ∈ im_ws, w.before args s = true) (hown : s.vm.findClass own = some m.cls) (hK : im_K D cA s) (hw : nh_S D im_cl im_sk cA A H0 S g I R H locs) (hn : S nm = some (0, 2)) (hg : g nm = b) (hlen : As.length = 1) (hsz : ls.size = nL) (hst : st0 = As.reverse ++ .ref b :: rest) (hrm : (rest.map fun v => v.category).sum ≤ 8) (hR : fr + 1 ≤ Rm.frames ∧ 8 + (2 + 11) + lo ≤ Rm.locals) (hfit : cells + mc ≤ Rm.cells ∧ slots + ms ≤ Rm.slots) (hdg : decode cc pc = .ok (.invokevirtual index, 3)) (kk : ∀ (v : Option Value) (S' : nh_N → Option nh_C) (g' : nh_N → Nat) (I' : nh_N → Nat → Int32) (R' : nh_N → Nat → Option nh_N) (H1 : Heap) (locs1 : List Loc), post v S' g' I' R' → nh_S D im_cl im_sk cA A H0 S' g' I' R' H1 locs1 → W p l e Rm s m args below meth c H1 locs1 (cells + mc) (slots + ms) Q (F0 m (pc + 3) ls (v.toList ++ rest))) : W p l e Rm s m args below meth c H locs cells slots Q (F0 m pc ls st0) := nh_callV (tys := im_tys cA) (T := qT2) (N := 2) ⟨hx, hb, hml, hown, ht⟩ hM (cwV 1 ht (gd_V wcX2_append hl wiX2_append weX2_append wz2) rfl rfl rfl (by decide +kernel) hR) (im_Kok D cA) hK hK.1 hw hn hg rfl hlen hsz hst hrm hdg hfit kk
theorem kcX2_indexAt {nm : nh_N} (hl : Cond.methodLink own index yX2_indexAt ∈ im_ws) (hM : im_M l D cA yX2_indexAt vX2_indexAt fr lo mc ms (.ref b :: As) S g I R post) (hx : p.tables.exec = Jvm.exec) (hb : c.code = cc) (hml : c.maxLocals = nL) (ht : ∀ w ∈ im_ws, w.before args s = true) (hown : s.vm.findClass own = some m.cls) (hK : im_K D cA s) (hw : nh_S D im_cl im_sk cA A H0 S g I R H locs) (hn : S nm = some (0, 2)) (hg : g nm = b) (hlen : As.length = 1) (hsz : ls.size = nL) (hst : st0 = As.reverse ++ .ref b :: rest) (hrm : (rest.map fun v => v.category).sum ≤ 8) (hR : fr + 1 ≤ Rm.frames ∧ 8 + (2 + 11) + lo ≤ Rm.locals) (hfit : cells + mc ≤ Rm.cells ∧ slots + ms ≤ Rm.slots) (hdg : decode cc pc = .ok (.invokevirtual index, 3)) (kk : ∀ (v : Option Value) (S' : nh_N → Option nh_C) (g' : nh_N → Nat) (I' : nh_N → Nat → Int32) (R' : nh_N → Nat → Option nh_N) (H1 : Heap) (locs1 : List Loc), post v S' g' I' R' → nh_S D im_cl im_sk cA A H0 S' g' I' R' H1 locs1 → W p l e Rm s m args below meth c H1 locs1 (cells + mc) (slots + ms) Q (F0 m (pc + 3) ls (v.toList ++ rest))) : W p l e Rm s m args below meth c H locs cells slots Q (F0 m pc ls st0) := nh_callV (tys := im_tys cA) (T := qT2) (N := 2) ⟨hx, hb, hml, hown, ht⟩ hM (cwV 1 ht (gd_V wcX2_indexAt hl wiX2_indexAt weX2_indexAt wz2) rfl rfl rfl (by decide +kernel) hR) (im_Kok D cA) hK hK.1 hw hn hg rfl hlen hsz hst hrm hdg hfit kk
theorem kcX2_takeOut {nm : nh_N} (hl : Cond.methodLink own index yX2_takeOut ∈ im_ws) (hM : im_M l D cA yX2_takeOut vX2_takeOut fr lo mc ms (.ref b :: As) S g I R post) (hx : p.tables.exec = Jvm.exec) (hb : c.code = cc) (hml : c.maxLocals = nL) (ht : ∀ w ∈ im_ws, w.before args s = true) (hown : s.vm.findClass own = some m.cls) (hK : im_K D cA s) (hw : nh_S D im_cl im_sk cA A H0 S g I R H locs) (hn : S nm = some (0, 2)) (hg : g nm = b) (hlen : As.length = 1) (hsz : ls.size = nL) (hst : st0 = As.reverse ++ .ref b :: rest) (hrm : (rest.map fun v => v.category).sum ≤ 8) (hR : fr + 1 ≤ Rm.frames ∧ 8 + (4 + 11) + lo ≤ Rm.locals) (hfit : cells + mc ≤ Rm.cells ∧ slots + ms ≤ Rm.slots) (hdg : decode cc pc = .ok (.invokevirtual index, 3)) (kk : ∀ (v : Option Value) (S' : nh_N → Option nh_C) (g' : nh_N → Nat) (I' : nh_N → Nat → Int32) (R' : nh_N → Nat → Option nh_N) (H1 : Heap) (locs1 : List Loc), post v S' g' I' R' → nh_S D im_cl im_sk cA A H0 S' g' I' R' H1 locs1 → W p l e Rm s m args below meth c H1 locs1 (cells + mc) (slots + ms) Q (F0 m (pc + 3) ls (v.toList ++ rest))) : W p l e Rm s m args below meth c H locs cells slots Q (F0 m pc ls st0) := nh_callV (tys := im_tys cA) (T := qT2) (N := 2) ⟨hx, hb, hml, hown, ht⟩ hM (cwV 1 ht (gd_V wcX2_takeOut hl wiX2_takeOut weX2_takeOut wz2) rfl rfl rfl (by decide +kernel) hR) (im_Kok D cA) hK hK.1 hw hn hg rfl hlen hsz hst hrm hdg hfit kk
theorem kcX3_init (hl : Cond.methodLink own index yX3_init ∈ im_ws) (hM : im_M l D cA yX3_init vX3_init fr lo mc ms (.ref b :: As) S g I R post) (hx : p.tables.exec = Jvm.exec) (hb : c.code = cc) (hml : c.maxLocals = nL) (ht : ∀ w ∈ im_ws, w.before args s = true) (hown : s.vm.findClass own = some m.cls) (hK : im_K D cA s) (hw : nh_S D im_cl im_sk cA A H0 S g I R H locs) (hlen : As.length = 2) (hsz : ls.size = nL) (hst : st0 = As.reverse ++ .ref b :: rest) (hrm : (rest.map fun v => v.category).sum ≤ 8) (hR : fr + 1 ≤ Rm.frames ∧ 8 + (3 + 11) + lo ≤ Rm.locals) (hfit : cells + mc ≤ Rm.cells ∧ slots + ms ≤ Rm.slots) (hdg : decode cc pc = .ok (.invokespecial index, 3)) (kk : ∀ (v : Option Value) (S' : nh_N → Option nh_C) (g' : nh_N → Nat) (I' : nh_N → Nat → Int32) (R' : nh_N → Nat → Option nh_N) (H1 : Heap) (locs1 : List Loc), post v S' g' I' R' → nh_S D im_cl im_sk cA A H0 S' g' I' R' H1 locs1 → (∀ q, q < H.size → ¬ nh_A S g H.size q → H1[q]? = H[q]?) → (∀ n c, S' n = some c → nh_A S g H.size (g' n)) → W p l e Rm s m args below meth c H1 locs1 (cells + mc) (slots + ms) Q (F0 m (pc + 3) ls (v.toList ++ rest))) : W p l e Rm s m args below meth c H locs cells slots Q (F0 m pc ls st0) := nh_callI ⟨hx, hb, hml, hown, ht⟩ hM (cwI 2 ht (gd_ws wcX3_init) rfl rfl rfl (ht _ wz3) (ht _ hl) (ht _ wiX3_init) rfl (by decide +kernel) hR) (im_Kok D cA) hK hw hlen hsz hst hrm hdg hfit kk
theorem kcX3_place {nm : nh_N} (hl : Cond.methodLink own index yX3_place ∈ im_ws) (hM : im_M l D cA yX3_place vX3_place fr lo mc ms (.ref b :: As) S g I R post) (hx : p.tables.exec = Jvm.exec) (hb : c.code = cc) (hml : c.maxLocals = nL) (ht : ∀ w ∈ im_ws, w.before args s = true) (hown : s.vm.findClass own = some m.cls) (hK : im_K D cA s) (hw : nh_S D im_cl im_sk cA A H0 S g I R H locs) (hn : S nm = some (0, 3)) (hg : g nm = b) (hlen : As.length = 3) (hsz : ls.size = nL) (hst : st0 = As.reverse ++ .ref b :: rest) (hrm : (rest.map fun v => v.category).sum ≤ 8) (hR : fr + 1 ≤ Rm.frames ∧ 8 + (4 + 11) + lo ≤ Rm.locals) (hfit : cells + mc ≤ Rm.cells ∧ slots + ms ≤ Rm.slots) (hdg : decode cc pc = .ok (.invokevirtual index, 3)) (kk : ∀ (v : Option Value) (S' : nh_N → Option nh_C) (g' : nh_N → Nat) (I' : nh_N → Nat → Int32) (R' : nh_N → Nat → Option nh_N) (H1 : Heap) (locs1 : List Loc), post v S' g' I' R' → nh_S D im_cl im_sk cA A H0 S' g' I' R' H1 locs1 → W p l e Rm s m args below meth c H1 locs1 (cells + mc) (slots + ms) Q (F0 m (pc + 3) ls (v.toList ++ rest))) : W p l e Rm s m args below meth c H locs cells slots Q (F0 m pc ls st0) := nh_callV (tys := im_tys cA) (T := qT3) (N := 4) ⟨hx, hb, hml, hown, ht⟩ hM (cwV 3 ht (gd_V wcX3_place hl wiX3_place weX3_place wz3) rfl rfl rfl (by decide +kernel) hR) (im_Kok D cA) hK hK.1 hw hn hg rfl hlen hsz hst hrm hdg hfit kk
theorem kcX3_partAt {nm : nh_N} (hl : Cond.methodLink own index yX3_partAt ∈ im_ws) (hM : im_M l D cA yX3_partAt vX3_partAt fr lo mc ms (.ref b :: As) S g I R post) (hx : p.tables.exec = Jvm.exec) (hb : c.code = cc) (hml : c.maxLocals = nL) (ht : ∀ w ∈ im_ws, w.before args s = true) (hown : s.vm.findClass own = some m.cls) (hK : im_K D cA s) (hw : nh_S D im_cl im_sk cA A H0 S g I R H locs) (hn : S nm = some (0, 3)) (hg : g nm = b) (hlen : As.length = 1) (hsz : ls.size = nL) (hst : st0 = As.reverse ++ .ref b :: rest) (hrm : (rest.map fun v => v.category).sum ≤ 8) (hR : fr + 1 ≤ Rm.frames ∧ 8 + (2 + 11) + lo ≤ Rm.locals) (hfit : cells + mc ≤ Rm.cells ∧ slots + ms ≤ Rm.slots) (hdg : decode cc pc = .ok (.invokevirtual index, 3)) (kk : ∀ (v : Option Value) (S' : nh_N → Option nh_C) (g' : nh_N → Nat) (I' : nh_N → Nat → Int32) (R' : nh_N → Nat → Option nh_N) (H1 : Heap) (locs1 : List Loc), post v S' g' I' R' → nh_S D im_cl im_sk cA A H0 S' g' I' R' H1 locs1 → W p l e Rm s m args below meth c H1 locs1 (cells + mc) (slots + ms) Q (F0 m (pc + 3) ls (v.toList ++ rest))) : W p l e Rm s m args below meth c H locs cells slots Q (F0 m pc ls st0) := nh_callV (tys := im_tys cA) (T := qT3) (N := 4) ⟨hx, hb, hml, hown, ht⟩ hM (cwV 1 ht (gd_V wcX3_partAt hl wiX3_partAt weX3_partAt wz3) rfl rfl rfl (by decide +kernel) hR) (im_Kok D cA) hK hK.1 hw hn hg rfl hlen hsz hst hrm hdg hfit kk
theorem kcX4_init (hl : Cond.methodLink own index yX4_init ∈ im_ws) (hM : im_M l D cA yX4_init vX4_init fr lo mc ms (.ref b :: As) S g I R post) (hx : p.tables.exec = Jvm.exec) (hb : c.code = cc) (hml : c.maxLocals = nL) (ht : ∀ w ∈ im_ws, w.before args s = true) (hown : s.vm.findClass own = some m.cls) (hK : im_K D cA s) (hw : nh_S D im_cl im_sk cA A H0 S g I R H locs) (hlen : As.length = 3) (hsz : ls.size = nL) (hst : st0 = As.reverse ++ .ref b :: rest) (hrm : (rest.map fun v => v.category).sum ≤ 8) (hR : fr + 1 ≤ Rm.frames ∧ 8 + (4 + 11) + lo ≤ Rm.locals) (hfit : cells + mc ≤ Rm.cells ∧ slots + ms ≤ Rm.slots) (hdg : decode cc pc = .ok (.invokespecial index, 3)) (kk : ∀ (v : Option Value) (S' : nh_N → Option nh_C) (g' : nh_N → Nat) (I' : nh_N → Nat → Int32) (R' : nh_N → Nat → Option nh_N) (H1 : Heap) (locs1 : List Loc), post v S' g' I' R' → nh_S D im_cl im_sk cA A H0 S' g' I' R' H1 locs1 → (∀ q, q < H.size → ¬ nh_A S g H.size q → H1[q]? = H[q]?) → (∀ n c, S' n = some c → nh_A S g H.size (g' n)) → W p l e Rm s m args below meth c H1 locs1 (cells + mc) (slots + ms) Q (F0 m (pc + 3) ls (v.toList ++ rest))) : W p l e Rm s m args below meth c H locs cells slots Q (F0 m pc ls st0) := nh_callI ⟨hx, hb, hml, hown, ht⟩ hM (cwI 3 ht (gd_ws wcX4_init) rfl rfl rfl (ht _ wz4) (ht _ hl) (ht _ wiX4_init) rfl (by decide +kernel) hR) (im_Kok D cA) hK hw hlen hsz hst hrm hdg hfit kk
theorem kcX7_cell (hl : Cond.methodLink "InsertMarksLaw" index yX7_cell ∈ im_ws) (hM : im_M l D cA yX7_cell vX7_cell fr lo mc ms As S g I R post) (hx : p.tables.exec = Jvm.exec) (hb : c.code = cc) (hml : c.maxLocals = nL) (ht : ∀ w ∈ im_ws, w.before args s = true) (hown : s.vm.findClass "InsertMarksLaw" = some m.cls) (hK : im_K D cA s) (hw : nh_S D im_cl im_sk cA A H0 S g I R H locs) (hlen : As.length = 2) (hsz : ls.size = nL) (hst : st0 = As.reverse ++ rest) (hrm : (rest.map fun v => v.category).sum ≤ 8) (hR : fr + 1 ≤ Rm.frames ∧ 8 + (2 + 11) + lo ≤ Rm.locals) (hfit : cells + mc ≤ Rm.cells ∧ slots + ms ≤ Rm.slots) (hdg : decode cc pc = .ok (.invokestatic index, 3)) (kk : ∀ (v : Option Value) (S' : nh_N → Option nh_C) (g' : nh_N → Nat) (I' : nh_N → Nat → Int32) (R' : nh_N → Nat → Option nh_N) (H1 : Heap) (locs1 : List Loc), post v S' g' I' R' → nh_S D im_cl im_sk cA A H0 S' g' I' R' H1 locs1 → W p l e Rm s m args below meth c H1 locs1 (cells + mc) (slots + ms) Q (F0 m (pc + 3) ls (v.toList ++ rest))) : W p l e Rm s m args below meth c H locs cells slots Q (F0 m pc ls st0) := nh_callS ⟨hx, hb, hml, hown, ht⟩ hM (cwS 2 ht (gd_S wcX7_cell hl wtX7_cell wz7) rfl rfl rfl (by decide +kernel) hR) (im_Kok D cA) hK hw hlen hsz hst hrm hdg hfit kk
theorem kn3_isWithin (hM : im_M l D cA yX5_isWithin vX5_isWithin fr lo mc ms As S g I R post) (hx : p.tables.exec = Jvm.exec) (hb : c.code = cc) (hml : c.maxLocals = nL) (ht : ∀ w ∈ im_ws, w.before args s = true) (hown : s.vm.findClass qR3 = some m.cls) (hK : im_K D cA s) (hw : nh_S D im_cl im_sk cA A H0 S g I R H locs) (hlen : As.length = 3) (hsz : ls.size = nL) (hst : st0 = As.reverse ++ rest) (hrm : (rest.map fun v => v.category).sum ≤ 8) (hR : fr + 1 ≤ Rm.frames ∧ 8 + (3 + 11) + lo ≤ Rm.locals) (hfit : cells + mc ≤ Rm.cells ∧ slots + ms ≤ Rm.slots) (hdg : decode cc pc = .ok (.invokestatic 50, 3)) (kk : ∀ (v : Option Value) (S' : nh_N → Option nh_C) (g' : nh_N → Nat) (I' : nh_N → Nat → Int32) (R' : nh_N → Nat → Option nh_N) (H1 : Heap) (locs1 : List Loc), post v S' g' I' R' → nh_S D im_cl im_sk cA A H0 S' g' I' R' H1 locs1 → W p l e Rm s m args below meth c H1 locs1 (cells + mc) (slots + ms) Q (F0 m (pc + 3) ls (v.toList ++ rest))) : W p l e Rm s m args below meth c H locs cells slots Q (F0 m pc ls st0) := nh_callSN (host := qR5) ⟨hx, hb, hml, hown, ht⟩ hM ⟨va_cnB 3 ht (gd_ws wcX5_isWithin) rfl rfl rfl hK.2.2.2.2.2.2.1 (ht _ wz5) (by decide +kernel) hR, ht _ wtX5_isWithin, trivial⟩ (im_Kok D cA) hK hw hlen hsz hst hrm hdg hfit kk
theorem kn2_isWithin (hM : im_M l D cA yX5_isWithin vX5_isWithin fr lo mc ms As S g I R post) (hx : p.tables.exec = Jvm.exec) (hb : c.code = cc) (hml : c.maxLocals = nL) (ht : ∀ w ∈ im_ws, w.before args s = true) (hown : s.vm.findClass qR2 = some m.cls) (hK : im_K D cA s) (hw : nh_S D im_cl im_sk cA A H0 S g I R H locs) (hlen : As.length = 3) (hsz : ls.size = nL) (hst : st0 = As.reverse ++ rest) (hrm : (rest.map fun v => v.category).sum ≤ 8) (hR : fr + 1 ≤ Rm.frames ∧ 8 + (3 + 11) + lo ≤ Rm.locals) (hfit : cells + mc ≤ Rm.cells ∧ slots + ms ≤ Rm.slots) (hdg : decode cc pc = .ok (.invokestatic 19, 3)) (kk : ∀ (v : Option Value) (S' : nh_N → Option nh_C) (g' : nh_N → Nat) (I' : nh_N → Nat → Int32) (R' : nh_N → Nat → Option nh_N) (H1 : Heap) (locs1 : List Loc), post v S' g' I' R' → nh_S D im_cl im_sk cA A H0 S' g' I' R' H1 locs1 → W p l e Rm s m args below meth c H1 locs1 (cells + mc) (slots + ms) Q (F0 m (pc + 3) ls (v.toList ++ rest))) : W p l e Rm s m args below meth c H locs cells slots Q (F0 m pc ls st0) := nh_callSN (host := qR5) ⟨hx, hb, hml, hown, ht⟩ hM ⟨va_cnB 3 ht (gd_ws wcX5_isWithin) rfl rfl rfl hK.2.2.2.2.2.2.2 (ht _ wz5) (by decide +kernel) hR, ht _ wtX5_isWithin, trivial⟩ (im_Kok D cA) hK hw hlen hsz hst hrm hdg hfit kk
theorem im_max (hx : p.tables.exec = Jvm.exec) (hb : c.code = cc) (hml : c.maxLocals = ls.size) (ht : ∀ w ∈ im_ws, w.before args s = true) (hown : s.vm.findClass own = some m.cls) (hl : Cond.methodLink own index Lib.Math.max.name ∈ im_ws) (hfr : 1 ≤ Rm.frames) (hlo : (rest.map fun v => v.category).sum + 13 ≤ Rm.locals) (hc : cells ≤ Rm.cells) (hs : slots ≤ Rm.slots) {x y : Int32} (hdg : decode cc pc = .ok (.invokestatic index, 3)) (kk : W p l e Rm s m args below meth c H locs cells slots Q (F0 m (pc + 3) ls (.int (if x < y then y else x) :: rest))) : W p l e Rm s m args below meth c H locs cells slots Q (F0 m pc ls (.int y :: .int x :: rest)) := va_mmax hx hb hml hown (ht _ hl) (ht _ wt_max) (ht _ wz_math) (ht _ wc_max) hfr hlo hc hs hdg kk
theorem im_min (hx : p.tables.exec = Jvm.exec) (hb : c.code = cc) (hml : c.maxLocals = ls.size) (ht : ∀ w ∈ im_ws, w.before args s = true) (hown : s.vm.findClass own = some m.cls) (hl : Cond.methodLink own index Lib.Math.min.name ∈ im_ws) (hfr : 1 ≤ Rm.frames) (hlo : (rest.map fun v => v.category).sum + 13 ≤ Rm.locals) (hc : cells ≤ Rm.cells) (hs : slots ≤ Rm.slots) {x y : Int32} (hdg : decode cc pc = .ok (.invokestatic index, 3)) (kk : W p l e Rm s m args below meth c H locs cells slots Q (F0 m (pc + 3) ls (.int (if y < x then y else x) :: rest))) : W p l e Rm s m args below meth c H locs cells slots Q (F0 m pc ls (.int y :: .int x :: rest)) := va_mmin hx hb hml hown (ht _ hl) (ht _ wt_min) (ht _ wz_math) (ht _ wc_min) hfr hlo hc hs hdg kk
theorem im_objInit (hx : p.tables.exec = Jvm.exec) (hb : c.code = cc) (ht : ∀ w ∈ im_ws, w.before args s = true) (hown : s.vm.findClass own = some m.cls) (hl : Cond.methodLink own index objectInit ∈ im_ws) (hsz : ls.size = c.maxLocals) {a : Nat} (hfr : 1 ≤ Rm.frames) (hlo : 12 ≤ Rm.locals) (hdg : decode cc pc = .ok (.invokespecial index, 3)) (kk : W p l e Rm s m args below meth c H locs cells slots Q (F0 m (pc + 3) ls [])) : W p l e Rm s m args below meth c H locs cells slots Q (F0 m pc ls [.ref a]) := W.objInit hx hb hown (ht _ hl) (ht _ wi_oi) (ht _ wc_oi) rfl hsz rfl hdg hfr hlo kk
end IMR
end
section
/-! THE REFERENCE: its object zM, its arrays zA s (s: the field's place) -/
abbrev zM : nh_N := (20, 0, 0)
abbrev zA (s : Nat) : nh_N := (21, s, 0)
theorem im_fin {v v0 : Option Value} {S : nh_N → Option nh_C} {g : nh_N → Nat} {I I0 : nh_N → Nat → Int32} {R : nh_N → Nat → Option nh_N} (h1 : v = v0) (h2 : I = I0) : im_eq v0 S g I0 R v S g I R := ⟨h1, rfl, rfl, h2, rfl⟩
theorem nb_of {x : Int32} (h : x = 0 ∨ x = 1) : narrow .boolean (.int x) = .int x := by
  rcases h with rfl | rfl <;> rfl
theorem fb_of {x : Int32} (h : x = 0 ∨ x = 1) : fits .boolean (.int x) = true := by
  rcases h with rfl | rfl <;> rfl
def zSh (S : nh_N → Option nh_C) (R : nh_N → Nat → Option nh_N) : Prop := S zM = some (0, 6) ∧ (R zM 2 = some (zA 2) ∧ S (zA 2) = some (1, 8)) ∧ (R zM 3 = some (zA 3) ∧ S (zA 3) = some (1, 8)) ∧ (R zM 4 = some (zA 4) ∧ S (zA 4) = some (2, 8)) ∧ (R zM 5 = some (zA 5) ∧ S (zA 5) = some (1, 8)) ∧ (R zM 7 = some (zA 7) ∧ S (zA 7) = some (1, 200)) ∧ (R zM 8 = some (zA 8) ∧ S (zA 8) = some (1, 200)) ∧ (R zM 9 = some (zA 9) ∧ S (zA 9) = some (1, 200)) ∧ (R zM 10 = some (zA 10) ∧ S (zA 10) = some (1, 200)) ∧ (R zM 11 = some (zA 11) ∧ S (zA 11) = some (2, 200)) ∧ (R zM 12 = some (zA 12) ∧ S (zA 12) = some (1, 200)) ∧ (R zM 14 = some (zA 14) ∧ S (zA 14) = some (1, 300)) ∧ (R zM 15 = some (zA 15) ∧ S (zA 15) = some (1, 300)) ∧ (R zM 16 = some (zA 16) ∧ S (zA 16) = some (1, 300)) ∧ (R zM 19 = some (zA 19) ∧ S (zA 19) = some (1, 9000)) ∧ (R zM 20 = some (zA 20) ∧ S (zA 20) = some (1, 9000)) ∧ (R zM 21 = some (zA 21) ∧ S (zA 21) = some (1, 9000)) ∧ (R zM 22 = some (zA 22) ∧ S (zA 22) = some (2, 9000)) ∧ (R zM 24 = some (zA 24) ∧ S (zA 24) = some (1, 200)) ∧ (R zM 26 = some (zA 26) ∧ S (zA 26) = some (1, 200)) ∧ (R zM 27 = some (zA 27) ∧ S (zA 27) = some (2, 8))
theorem zs_m {S : nh_N → Option nh_C} {R : nh_N → Nat → Option nh_N} (h : zSh S R) : S zM = some (0, 6) := h.1
theorem zr2 {S : nh_N → Option nh_C} {R : nh_N → Nat → Option nh_N} (h : zSh S R) : R zM 2 = some (zA 2) := h.2.1.1
theorem zs2 {S : nh_N → Option nh_C} {R : nh_N → Nat → Option nh_N} (h : zSh S R) : S (zA 2) = some (1, 8) := h.2.1.2
theorem zr3 {S : nh_N → Option nh_C} {R : nh_N → Nat → Option nh_N} (h : zSh S R) : R zM 3 = some (zA 3) := h.2.2.1.1
theorem zs3 {S : nh_N → Option nh_C} {R : nh_N → Nat → Option nh_N} (h : zSh S R) : S (zA 3) = some (1, 8) := h.2.2.1.2
theorem zr4 {S : nh_N → Option nh_C} {R : nh_N → Nat → Option nh_N} (h : zSh S R) : R zM 4 = some (zA 4) := h.2.2.2.1.1
theorem zs4 {S : nh_N → Option nh_C} {R : nh_N → Nat → Option nh_N} (h : zSh S R) : S (zA 4) = some (2, 8) := h.2.2.2.1.2
theorem zr5 {S : nh_N → Option nh_C} {R : nh_N → Nat → Option nh_N} (h : zSh S R) : R zM 5 = some (zA 5) := h.2.2.2.2.1.1
theorem zs5 {S : nh_N → Option nh_C} {R : nh_N → Nat → Option nh_N} (h : zSh S R) : S (zA 5) = some (1, 8) := h.2.2.2.2.1.2
theorem zr7 {S : nh_N → Option nh_C} {R : nh_N → Nat → Option nh_N} (h : zSh S R) : R zM 7 = some (zA 7) := h.2.2.2.2.2.1.1
theorem zs7 {S : nh_N → Option nh_C} {R : nh_N → Nat → Option nh_N} (h : zSh S R) : S (zA 7) = some (1, 200) := h.2.2.2.2.2.1.2
theorem zr8 {S : nh_N → Option nh_C} {R : nh_N → Nat → Option nh_N} (h : zSh S R) : R zM 8 = some (zA 8) := h.2.2.2.2.2.2.1.1
theorem zs8 {S : nh_N → Option nh_C} {R : nh_N → Nat → Option nh_N} (h : zSh S R) : S (zA 8) = some (1, 200) := h.2.2.2.2.2.2.1.2
theorem zr9 {S : nh_N → Option nh_C} {R : nh_N → Nat → Option nh_N} (h : zSh S R) : R zM 9 = some (zA 9) := h.2.2.2.2.2.2.2.1.1
theorem zs9 {S : nh_N → Option nh_C} {R : nh_N → Nat → Option nh_N} (h : zSh S R) : S (zA 9) = some (1, 200) := h.2.2.2.2.2.2.2.1.2
theorem zr10 {S : nh_N → Option nh_C} {R : nh_N → Nat → Option nh_N} (h : zSh S R) : R zM 10 = some (zA 10) := h.2.2.2.2.2.2.2.2.1.1
theorem zs10 {S : nh_N → Option nh_C} {R : nh_N → Nat → Option nh_N} (h : zSh S R) : S (zA 10) = some (1, 200) := h.2.2.2.2.2.2.2.2.1.2
theorem zr11 {S : nh_N → Option nh_C} {R : nh_N → Nat → Option nh_N} (h : zSh S R) : R zM 11 = some (zA 11) := h.2.2.2.2.2.2.2.2.2.1.1
theorem zs11 {S : nh_N → Option nh_C} {R : nh_N → Nat → Option nh_N} (h : zSh S R) : S (zA 11) = some (2, 200) := h.2.2.2.2.2.2.2.2.2.1.2
theorem zr12 {S : nh_N → Option nh_C} {R : nh_N → Nat → Option nh_N} (h : zSh S R) : R zM 12 = some (zA 12) := h.2.2.2.2.2.2.2.2.2.2.1.1
theorem zs12 {S : nh_N → Option nh_C} {R : nh_N → Nat → Option nh_N} (h : zSh S R) : S (zA 12) = some (1, 200) := h.2.2.2.2.2.2.2.2.2.2.1.2
theorem zr14 {S : nh_N → Option nh_C} {R : nh_N → Nat → Option nh_N} (h : zSh S R) : R zM 14 = some (zA 14) := h.2.2.2.2.2.2.2.2.2.2.2.1.1
theorem zs14 {S : nh_N → Option nh_C} {R : nh_N → Nat → Option nh_N} (h : zSh S R) : S (zA 14) = some (1, 300) := h.2.2.2.2.2.2.2.2.2.2.2.1.2
theorem zr15 {S : nh_N → Option nh_C} {R : nh_N → Nat → Option nh_N} (h : zSh S R) : R zM 15 = some (zA 15) := h.2.2.2.2.2.2.2.2.2.2.2.2.1.1
theorem zs15 {S : nh_N → Option nh_C} {R : nh_N → Nat → Option nh_N} (h : zSh S R) : S (zA 15) = some (1, 300) := h.2.2.2.2.2.2.2.2.2.2.2.2.1.2
theorem zr16 {S : nh_N → Option nh_C} {R : nh_N → Nat → Option nh_N} (h : zSh S R) : R zM 16 = some (zA 16) := h.2.2.2.2.2.2.2.2.2.2.2.2.2.1.1
theorem zs16 {S : nh_N → Option nh_C} {R : nh_N → Nat → Option nh_N} (h : zSh S R) : S (zA 16) = some (1, 300) := h.2.2.2.2.2.2.2.2.2.2.2.2.2.1.2
theorem zr19 {S : nh_N → Option nh_C} {R : nh_N → Nat → Option nh_N} (h : zSh S R) : R zM 19 = some (zA 19) := h.2.2.2.2.2.2.2.2.2.2.2.2.2.2.1.1
theorem zs19 {S : nh_N → Option nh_C} {R : nh_N → Nat → Option nh_N} (h : zSh S R) : S (zA 19) = some (1, 9000) := h.2.2.2.2.2.2.2.2.2.2.2.2.2.2.1.2
theorem zr20 {S : nh_N → Option nh_C} {R : nh_N → Nat → Option nh_N} (h : zSh S R) : R zM 20 = some (zA 20) := h.2.2.2.2.2.2.2.2.2.2.2.2.2.2.2.1.1
theorem zs20 {S : nh_N → Option nh_C} {R : nh_N → Nat → Option nh_N} (h : zSh S R) : S (zA 20) = some (1, 9000) := h.2.2.2.2.2.2.2.2.2.2.2.2.2.2.2.1.2
theorem zr21 {S : nh_N → Option nh_C} {R : nh_N → Nat → Option nh_N} (h : zSh S R) : R zM 21 = some (zA 21) := h.2.2.2.2.2.2.2.2.2.2.2.2.2.2.2.2.1.1
theorem zs21 {S : nh_N → Option nh_C} {R : nh_N → Nat → Option nh_N} (h : zSh S R) : S (zA 21) = some (1, 9000) := h.2.2.2.2.2.2.2.2.2.2.2.2.2.2.2.2.1.2
theorem zr22 {S : nh_N → Option nh_C} {R : nh_N → Nat → Option nh_N} (h : zSh S R) : R zM 22 = some (zA 22) := h.2.2.2.2.2.2.2.2.2.2.2.2.2.2.2.2.2.1.1
theorem zs22 {S : nh_N → Option nh_C} {R : nh_N → Nat → Option nh_N} (h : zSh S R) : S (zA 22) = some (2, 9000) := h.2.2.2.2.2.2.2.2.2.2.2.2.2.2.2.2.2.1.2
theorem zr24 {S : nh_N → Option nh_C} {R : nh_N → Nat → Option nh_N} (h : zSh S R) : R zM 24 = some (zA 24) := h.2.2.2.2.2.2.2.2.2.2.2.2.2.2.2.2.2.2.1.1
theorem zs24 {S : nh_N → Option nh_C} {R : nh_N → Nat → Option nh_N} (h : zSh S R) : S (zA 24) = some (1, 200) := h.2.2.2.2.2.2.2.2.2.2.2.2.2.2.2.2.2.2.1.2
theorem zr26 {S : nh_N → Option nh_C} {R : nh_N → Nat → Option nh_N} (h : zSh S R) : R zM 26 = some (zA 26) := h.2.2.2.2.2.2.2.2.2.2.2.2.2.2.2.2.2.2.2.1.1
theorem zs26 {S : nh_N → Option nh_C} {R : nh_N → Nat → Option nh_N} (h : zSh S R) : S (zA 26) = some (1, 200) := h.2.2.2.2.2.2.2.2.2.2.2.2.2.2.2.2.2.2.2.1.2
theorem zr27 {S : nh_N → Option nh_C} {R : nh_N → Nat → Option nh_N} (h : zSh S R) : R zM 27 = some (zA 27) := h.2.2.2.2.2.2.2.2.2.2.2.2.2.2.2.2.2.2.2.2.1
theorem zs27 {S : nh_N → Option nh_C} {R : nh_N → Nat → Option nh_N} (h : zSh S R) : S (zA 27) = some (2, 8) := h.2.2.2.2.2.2.2.2.2.2.2.2.2.2.2.2.2.2.2.2.2
theorem ix_of {x : Int32} {N : Nat} (n : Nat) (h : x = nI n) (hn : n < N) (hN : N < 2 ^ 31) : vp_in x N := by rw [h]; exact vp_in_nI hn hN
def zf_in (J : (nh_N → Nat → Int32)) (a : Int32) (b : Int32) (d : Int32) : Int32 := (if a < b then 0 else (if d < a then 0 else 1))
set_option maxHeartbeats 4000000 in
set_option maxRecDepth 100000 in
theorem zc_in (l : Launch) (D : va_G) (cA : Nat → ClassId) {S : nh_N → Option nh_C} {g : nh_N → Nat} {J : (nh_N → Nat → Int32)} {R : nh_N → Nat → Option nh_N} (a : Int32) (b : Int32) (d : Int32)  : im_M l D cA yX6_in vX6_in 0 0 0 0 [.int a, .int b, .int d] S g J R (im_eq (some (.int (zf_in J a b d))) S g J R) := by
  refine nh_of (cc := cX6_in) (maxL := 3) (ret := (some .boolean)) (by decide) rfl (Nat.le_of_ble_eq_true rfl) ?_
  intro p e s m below meth c A ls hx hb hr hml hts hown hlocks hin hK hw hl
  have ht : ∀ w ∈ im_ws, w.before _ s = true := fun w h => hts w (List.mem_cons_of_mem _ h)
  have hl : lv_has ls 3 [(0, .int a), (1, .int b), (2, .int d)] := hl
  refine lv_iload_n hx hb dX6_in_0 rfl (lv_at hl 0 rfl) ?_
  refine lv_iload_n hx hb dX6_in_1 rfl (lv_at hl 1 rfl) ?_
  refine lv_icmp_lt (tgt := 14) hx hb dX6_in_2 (by decide) (fun c2 => ?_) (fun c2 => ?_)
  · refine lv_iconst (v := 0) hx hb dX6_in_14 (by decide) ?_
    refine nh_iret hx hb hr rfl hlocks hw (Nat.zero_le _) (Nat.zero_le _) dX6_in_15 ?_
    simp only [zf_in, if_pos c2]
    exact im_fin rfl rfl
  · refine lv_iload_n hx hb dX6_in_5 rfl (lv_at hl 0 rfl) ?_
    refine lv_iload_n hx hb dX6_in_6 rfl (lv_at hl 2 rfl) ?_
    refine lv_icmp_gt (tgt := 14) hx hb dX6_in_7 (by decide) (fun c7 => ?_) (fun c7 => ?_)
    · refine lv_iconst (v := 0) hx hb dX6_in_14 (by decide) ?_
      refine nh_iret hx hb hr rfl hlocks hw (Nat.zero_le _) (Nat.zero_le _) dX6_in_15 ?_
      simp only [zf_in, if_neg c2, if_pos c7]
      exact im_fin rfl rfl
    · refine lv_iconst (v := 1) hx hb dX6_in_10 (by decide) ?_
      refine lv_goto (tgt := 15) hx hb dX6_in_11 (by decide) ?_
      refine nh_iret hx hb hr rfl hlocks hw (Nat.zero_le _) (Nat.zero_le _) dX6_in_15 ?_
      simp only [zf_in, if_neg c2, if_neg c7]
      exact im_fin rfl rfl
theorem zb_in (J : nh_N → Nat → Int32) (a b d : Int32) : zf_in J a b d = 0 ∨ zf_in J a b d = 1 := by
  unfold zf_in
  split <;> (try split) <;> simp
def zf_isClass (J : (nh_N → Nat → Int32)) (a : Int32) : Int32 := (zf_in J a 0 ((J zM 1) - 1))
set_option maxHeartbeats 4000000 in
set_option maxRecDepth 100000 in
theorem zc_isClass (l : Launch) (D : va_G) (cA : Nat → ClassId) {S : nh_N → Option nh_C} {g : nh_N → Nat} {J : (nh_N → Nat → Int32)} {R : nh_N → Nat → Option nh_N} (hz : zSh S R) (a : Int32)  : im_M l D cA yX6_isClass vX6_isClass 1 22 0 0 [.ref (g zM), .int a] S g J R (im_eq (some (.int (zf_isClass J a))) S g J R) := by
  refine nh_of (cc := cX6_isClass) (maxL := 2) (ret := (some .boolean)) (by decide) rfl (Nat.le_of_ble_eq_true rfl) ?_
  intro p e s m below meth c A ls hx hb hr hml hts hown hlocks hin hK hw hl
  have ht : ∀ w ∈ im_ws, w.before _ s = true := fun w h => hts w (List.mem_cons_of_mem _ h)
  have hl : lv_has ls 2 [(0, .ref (g zM)), (1, .int a)] := hl
  refine lv_iload_n hx hb dX6_isClass_0 rfl (lv_at hl 1 rfl) ?_
  refine lv_iconst (v := 0) hx hb dX6_isClass_1 (by decide) ?_
  refine lv_aload_n hx hb dX6_isClass_2 rfl (lv_at hl 0 rfl) ?_
  refine fg6 (v := .int (J zM 1)) hx hb ht hown hK hw (zs_m hz) rfl 1 wf6_75 (by decide) (nh_vi rfl) dX6_isClass_3 ?_
  refine lv_iconst (v := 1) hx hb dX6_isClass_6 (by decide) ?_
  refine lv_isub hx hb dX6_isClass_7 ?_
  refine kcX6_in (As := [.int a, .int 0, .int ((J zM 1) - 1)]) (rest := []) wm6_78 (zc_in l D cA a 0 ((J zM 1) - 1)) hx hb hml ht hown hK hw rfl hl.1 rfl (by simp [Value.category]) ⟨by decide, by decide⟩ ⟨by simp, by simp⟩ dX6_isClass_8 (fun v S1 g1 I1 R1 H locs hp hw => ?_)
  obtain ⟨rfl, h1, h2, h3, h4⟩ := hp
  rw [h1, h2, h3, h4] at hw
  clear h1 h2 h3 h4
  show W _ _ _ _ _ _ _ _ _ _ _ _ _ _ _ (F0 m 11 ls [.int (zf_in J a 0 ((J zM 1) - 1))])
  refine nh_iret hx hb hr (nb_of (zb_in _ _ _ _)) hlocks hw (Nat.zero_le _) (Nat.zero_le _) dX6_isClass_11 ?_
  exact im_fin rfl rfl
theorem zb_isClass (J : nh_N → Nat → Int32) (a : Int32) : zf_isClass J a = 0 ∨ zf_isClass J a = 1 := zb_in _ _ _ _
def zf_cls (J : (nh_N → Nat → Int32)) (a : Int32) (b : Int32) (d : Int32) : Int32 × (nh_N → Nat → Int32) := (if (zf_in J a (-1) 10000) = 0 then ((-2), J) else (if (zf_in J b 0 10000) = 0 then ((-2), J) else (if (J zM 1) = 8 then ((-4), J) else (((J zM 1) + 1) - 1, (iu (iu (iu (iu J (zA 2) (J zM 1).toNatClampNeg a) (zA 3) (J zM 1).toNatClampNeg b) (zA 4) (J zM 1).toNatClampNeg d) zM 1 ((J zM 1) + 1))))))
set_option maxHeartbeats 4000000 in
set_option maxRecDepth 100000 in
theorem zc_cls (l : Launch) (D : va_G) (cA : Nat → ClassId) {S : nh_N → Option nh_C} {g : nh_N → Nat} {J : (nh_N → Nat → Int32)} {R : nh_N → Nat → Option nh_N} (hz : zSh S R) (a : Int32) (b : Int32) (d : Int32) (nk : Nat) (hnk : J zM 1 = nI nk) (hk8 : nk ≤ 8) (hd : d = 0 ∨ d = 1) : im_M l D cA yX6_cls vX6_cls 1 22 0 0 [.ref (g zM), .int a, .int b, .int d] S g J R (im_eq (some (.int (zf_cls J a b d).1)) S g (zf_cls J a b d).2 R) := by
  refine nh_of (cc := cX6_cls) (maxL := 4) (ret := (some .int)) (by decide) rfl (Nat.le_of_ble_eq_true rfl) ?_
  intro p e s m below meth c A ls hx hb hr hml hts hown hlocks hin hK hw hl
  have ht : ∀ w ∈ im_ws, w.before _ s = true := fun w h => hts w (List.mem_cons_of_mem _ h)
  have hl : lv_has ls 4 [(0, .ref (g zM)), (1, .int a), (2, .int b), (3, .int d)] := hl
  refine lv_iload_n hx hb dX6_cls_0 rfl (lv_at hl 1 rfl) ?_
  refine lv_iconst (v := (-1)) hx hb dX6_cls_1 (by decide) ?_
  refine lv_sipush (v := 10000) hx hb dX6_cls_2 (by decide) ?_
  refine kcX6_in (As := [.int a, .int (-1), .int 10000]) (rest := []) wm6_78 (zc_in l D cA a (-1) 10000) hx hb hml ht hown hK hw rfl hl.1 rfl (by simp [Value.category]) ⟨by decide, by decide⟩ ⟨by simp, by simp⟩ dX6_cls_5 (fun v S1 g1 I1 R1 H locs hp hw => ?_)
  obtain ⟨rfl, h1, h2, h3, h4⟩ := hp
  rw [h1, h2, h3, h4] at hw
  clear h1 h2 h3 h4
  show W _ _ _ _ _ _ _ _ _ _ _ _ _ _ _ (F0 m 8 ls [.int (zf_in J a (-1) 10000)])
  refine lv_if_eq (tgt := 22) hx hb dX6_cls_8 (by decide) (fun c8 => ?_) (fun c8 => ?_)
  · refine lv_bipush (v := (-2)) hx hb dX6_cls_22 (by decide) ?_
    refine nh_iret hx hb hr rfl hlocks hw (Nat.zero_le _) (Nat.zero_le _) dX6_cls_24 ?_
    simp only [zf_cls, if_pos c8]
    exact im_fin rfl rfl
  · refine lv_iload_n hx hb dX6_cls_11 rfl (lv_at hl 2 rfl) ?_
    refine lv_iconst (v := 0) hx hb dX6_cls_12 (by decide) ?_
    refine lv_sipush (v := 10000) hx hb dX6_cls_13 (by decide) ?_
    refine kcX6_in (As := [.int b, .int 0, .int 10000]) (rest := []) wm6_78 (zc_in l D cA b 0 10000) hx hb hml ht hown hK hw rfl hl.1 rfl (by simp [Value.category]) ⟨by decide, by decide⟩ ⟨by simp, by simp⟩ dX6_cls_16 (fun v S1 g1 I1 R1 H locs hp hw => ?_)
    obtain ⟨rfl, h1, h2, h3, h4⟩ := hp
    rw [h1, h2, h3, h4] at hw
    clear h1 h2 h3 h4
    show W _ _ _ _ _ _ _ _ _ _ _ _ _ _ _ (F0 m 19 ls [.int (zf_in J b 0 10000)])
    refine lv_if_ne (tgt := 25) hx hb dX6_cls_19 (by decide) (fun c19 => ?_) (fun c19 => ?_)
    · refine lv_aload_n hx hb dX6_cls_25 rfl (lv_at hl 0 rfl) ?_
      refine fg6 (v := .int (J zM 1)) hx hb ht hown hK hw (zs_m hz) rfl 1 wf6_75 (by decide) (nh_vi rfl) dX6_cls_26 ?_
      refine lv_bipush (v := 8) hx hb dX6_cls_29 (by decide) ?_
      refine lv_icmp_ne (tgt := 37) hx hb dX6_cls_31 (by decide) (fun c31 => ?_) (fun c31 => ?_)
      · refine lv_aload_n hx hb dX6_cls_37 rfl (lv_at hl 0 rfl) ?_
        refine fg6 hx hb ht hown hK hw (zs_m hz) rfl 2 wf6_7 (by decide) (nh_vr rfl (zr2 hz)) dX6_cls_38 ?_
        refine lv_aload_n hx hb dX6_cls_41 rfl (lv_at hl 0 rfl) ?_
        refine fg6 (v := .int (J zM 1)) hx hb ht hown hK hw (zs_m hz) rfl 1 wf6_75 (by decide) (nh_vi rfl) dX6_cls_42 ?_
        refine lv_iload_n hx hb dX6_cls_45 rfl (lv_at hl 1 rfl) ?_
        refine ai_st hx hb hK hw (zs2 hz) rfl (ix_of nk (by simp [hnk]) (by rcases Nat.lt_or_ge nk 8 with h | h; exact h; exact absurd (by rw [hnk, show nk = 8 by omega]; rfl) c31) (by decide)) dX6_cls_46 (fun H locs J1 eJ1 hw => ?_)
        refine lv_aload_n hx hb dX6_cls_47 rfl (lv_at hl 0 rfl) ?_
        refine fg6 hx hb ht hown hK hw (zs_m hz) rfl 3 wf6_13 (by decide) (nh_vr rfl (zr3 hz)) dX6_cls_48 ?_
        refine lv_aload_n hx hb dX6_cls_51 rfl (lv_at hl 0 rfl) ?_
        refine fg6 (v := .int (J zM 1)) hx hb ht hown hK hw (zs_m hz) rfl 1 wf6_75 (by decide) (by simp [nh_v, im_sk, iu_e, zM, zA, eJ1]) dX6_cls_52 ?_
        refine lv_iload_n hx hb dX6_cls_55 rfl (lv_at hl 2 rfl) ?_
        refine ai_st hx hb hK hw (zs3 hz) rfl (ix_of nk (by simp [hnk]) (by rcases Nat.lt_or_ge nk 8 with h | h; exact h; exact absurd (by rw [hnk, show nk = 8 by omega]; rfl) c31) (by decide)) dX6_cls_56 (fun H locs J2 eJ2 hw => ?_)
        refine lv_aload_n hx hb dX6_cls_57 rfl (lv_at hl 0 rfl) ?_
        refine fg6 hx hb ht hown hK hw (zs_m hz) rfl 4 wf6_16 (by decide) (nh_vr rfl (zr4 hz)) dX6_cls_58 ?_
        refine lv_aload_n hx hb dX6_cls_61 rfl (lv_at hl 0 rfl) ?_
        refine fg6 (v := .int (J zM 1)) hx hb ht hown hK hw (zs_m hz) rfl 1 wf6_75 (by decide) (by simp [nh_v, im_sk, iu_e, zM, zA, eJ2, eJ1]) dX6_cls_62 ?_
        refine lv_iload_n hx hb dX6_cls_65 rfl (lv_at hl 3 rfl) ?_
        refine az_st hx hb hK hw (zs4 hz) rfl (ix_of nk (by simp [hnk]) (by rcases Nat.lt_or_ge nk 8 with h | h; exact h; exact absurd (by rw [hnk, show nk = 8 by omega]; rfl) c31) (by decide)) (nb_of hd) dX6_cls_66 (fun H locs J3 eJ3 hw => ?_)
        refine lv_aload_n hx hb dX6_cls_67 rfl (lv_at hl 0 rfl) ?_
        refine lv_dup hx hb dX6_cls_68 rfl ?_
        refine fg6 (v := .int (J zM 1)) hx hb ht hown hK hw (zs_m hz) rfl 1 wf6_75 (by decide) (by simp [nh_v, im_sk, iu_e, zM, zA, eJ3, eJ2, eJ1]) dX6_cls_69 ?_
        refine lv_iconst (v := 1) hx hb dX6_cls_72 (by decide) ?_
        refine lv_iadd hx hb dX6_cls_73 ?_
        refine fp6 hx hb ht hown hK hw (zs_m hz) rfl 1 wf6_75 (by decide) rfl rfl rfl rfl dX6_cls_74 (fun H locs J4 eJ4 hw => ?_)
        refine lv_aload_n hx hb dX6_cls_77 rfl (lv_at hl 0 rfl) ?_
        refine fg6 (v := .int ((J zM 1) + 1)) hx hb ht hown hK hw (zs_m hz) rfl 1 wf6_75 (by decide) (by simp [nh_v, im_sk, iu_e, zM, zA, eJ4, eJ3, eJ2, eJ1]) dX6_cls_78 ?_
        refine lv_iconst (v := 1) hx hb dX6_cls_81 (by decide) ?_
        refine lv_isub hx hb dX6_cls_82 ?_
        refine nh_iret hx hb hr rfl hlocks hw (Nat.zero_le _) (Nat.zero_le _) dX6_cls_83 ?_
        subst eJ4
        subst eJ3
        subst eJ2
        subst eJ1
        simp only [zf_cls, if_neg c8, if_neg c19, if_neg c31]
        exact im_fin rfl rfl
      · refine lv_bipush (v := (-4)) hx hb dX6_cls_34 (by decide) ?_
        refine nh_iret hx hb hr rfl hlocks hw (Nat.zero_le _) (Nat.zero_le _) dX6_cls_36 ?_
        simp only [zf_cls, if_neg c8, if_neg c19, if_pos c31]
        exact im_fin rfl rfl
    · refine lv_bipush (v := (-2)) hx hb dX6_cls_22 (by decide) ?_
      refine nh_iret hx hb hr rfl hlocks hw (Nat.zero_le _) (Nat.zero_le _) dX6_cls_24 ?_
      simp only [zf_cls, if_neg c8, if_pos c19]
      exact im_fin rfl rfl
end
section
def zf_insert (J : (nh_N → Nat → Int32))  (a : Int32) (b : Int32) (d : Int32) : Int32 × (nh_N → Nat → Int32) := (if (zf_isClass J a) = 0 then ((-1), J) else (if (zf_in J b 1 10000) = 0 then ((-2), J) else (if (zf_in J d 0 39) = 0 then ((-2), J) else (if (J zM 17) ≤ d then (if (J zM 6) = 200 then ((-4), J) else (((J zM 6) + 1) - 1, (iu (iu (iu (iu J (zA 7) (J zM 6).toNatClampNeg a) (zA 8) (J zM 6).toNatClampNeg b) (zA 9) (J zM 6).toNatClampNeg d) zM 6 ((J zM 6) + 1)))) else ((-3), J)))))
set_option maxHeartbeats 4000000 in
set_option maxRecDepth 100000 in
theorem zc_insert (l : Launch) (D : va_G) (cA : Nat → ClassId) {S : nh_N → Option nh_C} {g : nh_N → Nat} {J : (nh_N → Nat → Int32)} {R : nh_N → Nat → Option nh_N} (hz : zSh S R) (a : Int32) (b : Int32) (d : Int32) (ni : Nat) (hni : J zM 6 = nI ni) (hi2 : ni ≤ 200) : im_M l D cA yX6_insert vX6_insert 2 43 0 0 [.ref (g zM), .int a, .int b, .int d] S g J R (im_eq (some (.int (zf_insert J a b d).1)) S g (zf_insert J a b d).2 R) := by
  refine nh_of (cc := cX6_insert) (maxL := 4) (ret := (some .int)) (by decide) rfl (Nat.le_of_ble_eq_true rfl) ?_
  intro p e s m below meth c A ls hx hb hr hml hts hown hlocks hin hK hw hl
  have ht : ∀ w ∈ im_ws, w.before _ s = true := fun w h => hts w (List.mem_cons_of_mem _ h)
  have hl : lv_has ls 4 [(0, .ref (g zM)), (1, .int a), (2, .int b), (3, .int d)] := hl
  refine lv_aload_n hx hb dX6_insert_0 rfl (lv_at hl 0 rfl) ?_
  refine lv_iload_n hx hb dX6_insert_1 rfl (lv_at hl 1 rfl) ?_
  refine kcX6_isClass (As := [.int a]) (rest := []) wm6_82 (zc_isClass l D cA hz a) hx hb hml ht hown hK hw (zs_m hz) rfl rfl hl.1 rfl (by simp [Value.category]) ⟨by decide, by decide⟩ ⟨by simp, by simp⟩ dX6_insert_2 (fun v S1 g1 I1 R1 H locs hp hw => ?_)
  obtain ⟨rfl, h1, h2, h3, h4⟩ := hp
  rw [h1, h2, h3, h4] at hw
  clear h1 h2 h3 h4
  show W _ _ _ _ _ _ _ _ _ _ _ _ _ _ _ (F0 m 5 ls [.int (zf_isClass J a)])
  refine lv_if_ne (tgt := 10) hx hb dX6_insert_5 (by decide) (fun c5 => ?_) (fun c5 => ?_)
  · refine lv_iload_n hx hb dX6_insert_10 rfl (lv_at hl 2 rfl) ?_
    refine lv_iconst (v := 1) hx hb dX6_insert_11 (by decide) ?_
    refine lv_sipush (v := 10000) hx hb dX6_insert_12 (by decide) ?_
    refine kcX6_in (As := [.int b, .int 1, .int 10000]) (rest := []) wm6_78 (zc_in l D cA b 1 10000) hx hb hml ht hown hK hw rfl hl.1 rfl (by simp [Value.category]) ⟨by decide, by decide⟩ ⟨by simp, by simp⟩ dX6_insert_15 (fun v S1 g1 I1 R1 H locs hp hw => ?_)
    obtain ⟨rfl, h1, h2, h3, h4⟩ := hp
    rw [h1, h2, h3, h4] at hw
    clear h1 h2 h3 h4
    show W _ _ _ _ _ _ _ _ _ _ _ _ _ _ _ (F0 m 18 ls [.int (zf_in J b 1 10000)])
    refine lv_if_eq (tgt := 31) hx hb dX6_insert_18 (by decide) (fun c18 => ?_) (fun c18 => ?_)
    · refine lv_bipush (v := (-2)) hx hb dX6_insert_31 (by decide) ?_
      refine nh_iret hx hb hr rfl hlocks hw (Nat.zero_le _) (Nat.zero_le _) dX6_insert_33 ?_
      simp only [zf_insert, if_neg c5, if_pos c18]
      exact im_fin rfl rfl
    · refine lv_iload_n hx hb dX6_insert_21 rfl (lv_at hl 3 rfl) ?_
      refine lv_iconst (v := 0) hx hb dX6_insert_22 (by decide) ?_
      refine lv_bipush (v := 39) hx hb dX6_insert_23 (by decide) ?_
      refine kcX6_in (As := [.int d, .int 0, .int 39]) (rest := []) wm6_78 (zc_in l D cA d 0 39) hx hb hml ht hown hK hw rfl hl.1 rfl (by simp [Value.category]) ⟨by decide, by decide⟩ ⟨by simp, by simp⟩ dX6_insert_25 (fun v S1 g1 I1 R1 H locs hp hw => ?_)
      obtain ⟨rfl, h1, h2, h3, h4⟩ := hp
      rw [h1, h2, h3, h4] at hw
      clear h1 h2 h3 h4
      show W _ _ _ _ _ _ _ _ _ _ _ _ _ _ _ (F0 m 28 ls [.int (zf_in J d 0 39)])
      refine lv_if_ne (tgt := 34) hx hb dX6_insert_28 (by decide) (fun c28 => ?_) (fun c28 => ?_)
      · refine lv_iload_n hx hb dX6_insert_34 rfl (lv_at hl 3 rfl) ?_
        refine lv_aload_n hx hb dX6_insert_35 rfl (lv_at hl 0 rfl) ?_
        refine fg6 (v := .int (J zM 17)) hx hb ht hown hK hw (zs_m hz) rfl 17 wf6_86 (by decide) (nh_vi rfl) dX6_insert_36 ?_
        refine lv_icmp_ge (tgt := 45) hx hb dX6_insert_39 (by decide) (fun c39 => ?_) (fun c39 => ?_)
        · refine lv_aload_n hx hb dX6_insert_45 rfl (lv_at hl 0 rfl) ?_
          refine fg6 (v := .int (J zM 6)) hx hb ht hown hK hw (zs_m hz) rfl 6 wf6_89 (by decide) (nh_vi rfl) dX6_insert_46 ?_
          refine lv_sipush (v := 200) hx hb dX6_insert_49 (by decide) ?_
          refine lv_icmp_ne (tgt := 58) hx hb dX6_insert_52 (by decide) (fun c52 => ?_) (fun c52 => ?_)
          · refine lv_aload_n hx hb dX6_insert_58 rfl (lv_at hl 0 rfl) ?_
            refine fg6 hx hb ht hown hK hw (zs_m hz) rfl 7 wf6_23 (by decide) (nh_vr rfl (zr7 hz)) dX6_insert_59 ?_
            refine lv_aload_n hx hb dX6_insert_62 rfl (lv_at hl 0 rfl) ?_
            refine fg6 (v := .int (J zM 6)) hx hb ht hown hK hw (zs_m hz) rfl 6 wf6_89 (by decide) (nh_vi rfl) dX6_insert_63 ?_
            refine lv_iload_n hx hb dX6_insert_66 rfl (lv_at hl 1 rfl) ?_
            refine ai_st hx hb hK hw (zs7 hz) rfl (ix_of ni (by simp [hni]) (by rcases Nat.lt_or_ge ni 200 with h | h; exact h; exact absurd (by rw [hni, show ni = 200 by omega]; rfl) c52) (by decide)) dX6_insert_67 (fun H locs J1 eJ1 hw => ?_)
            refine lv_aload_n hx hb dX6_insert_68 rfl (lv_at hl 0 rfl) ?_
            refine fg6 hx hb ht hown hK hw (zs_m hz) rfl 8 wf6_26 (by decide) (nh_vr rfl (zr8 hz)) dX6_insert_69 ?_
            refine lv_aload_n hx hb dX6_insert_72 rfl (lv_at hl 0 rfl) ?_
            refine fg6 (v := .int (J zM 6)) hx hb ht hown hK hw (zs_m hz) rfl 6 wf6_89 (by decide) (by simp [nh_v, im_sk, iu_e, zM, zA, eJ1]) dX6_insert_73 ?_
            refine lv_iload_n hx hb dX6_insert_76 rfl (lv_at hl 2 rfl) ?_
            refine ai_st hx hb hK hw (zs8 hz) rfl (ix_of ni (by simp [hni]) (by rcases Nat.lt_or_ge ni 200 with h | h; exact h; exact absurd (by rw [hni, show ni = 200 by omega]; rfl) c52) (by decide)) dX6_insert_77 (fun H locs J2 eJ2 hw => ?_)
            refine lv_aload_n hx hb dX6_insert_78 rfl (lv_at hl 0 rfl) ?_
            refine fg6 hx hb ht hown hK hw (zs_m hz) rfl 9 wf6_29 (by decide) (nh_vr rfl (zr9 hz)) dX6_insert_79 ?_
            refine lv_aload_n hx hb dX6_insert_82 rfl (lv_at hl 0 rfl) ?_
            refine fg6 (v := .int (J zM 6)) hx hb ht hown hK hw (zs_m hz) rfl 6 wf6_89 (by decide) (by simp [nh_v, im_sk, iu_e, zM, zA, eJ2, eJ1]) dX6_insert_83 ?_
            refine lv_iload_n hx hb dX6_insert_86 rfl (lv_at hl 3 rfl) ?_
            refine ai_st hx hb hK hw (zs9 hz) rfl (ix_of ni (by simp [hni]) (by rcases Nat.lt_or_ge ni 200 with h | h; exact h; exact absurd (by rw [hni, show ni = 200 by omega]; rfl) c52) (by decide)) dX6_insert_87 (fun H locs J3 eJ3 hw => ?_)
            refine lv_aload_n hx hb dX6_insert_88 rfl (lv_at hl 0 rfl) ?_
            refine lv_dup hx hb dX6_insert_89 rfl ?_
            refine fg6 (v := .int (J zM 6)) hx hb ht hown hK hw (zs_m hz) rfl 6 wf6_89 (by decide) (by simp [nh_v, im_sk, iu_e, zM, zA, eJ3, eJ2, eJ1]) dX6_insert_90 ?_
            refine lv_iconst (v := 1) hx hb dX6_insert_93 (by decide) ?_
            refine lv_iadd hx hb dX6_insert_94 ?_
            refine fp6 hx hb ht hown hK hw (zs_m hz) rfl 6 wf6_89 (by decide) rfl rfl rfl rfl dX6_insert_95 (fun H locs J4 eJ4 hw => ?_)
            refine lv_aload_n hx hb dX6_insert_98 rfl (lv_at hl 0 rfl) ?_
            refine fg6 (v := .int ((J zM 6) + 1)) hx hb ht hown hK hw (zs_m hz) rfl 6 wf6_89 (by decide) (by simp [nh_v, im_sk, iu_e, zM, zA, eJ4, eJ3, eJ2, eJ1]) dX6_insert_99 ?_
            refine lv_iconst (v := 1) hx hb dX6_insert_102 (by decide) ?_
            refine lv_isub hx hb dX6_insert_103 ?_
            refine nh_iret hx hb hr rfl hlocks hw (Nat.zero_le _) (Nat.zero_le _) dX6_insert_104 ?_
            subst eJ4
            subst eJ3
            subst eJ2
            subst eJ1
            simp only [zf_insert, if_neg c5, if_neg c18, if_neg c28, if_pos c39, if_neg c52]
            exact im_fin rfl rfl
          · refine lv_bipush (v := (-4)) hx hb dX6_insert_55 (by decide) ?_
            refine nh_iret hx hb hr rfl hlocks hw (Nat.zero_le _) (Nat.zero_le _) dX6_insert_57 ?_
            simp only [zf_insert, if_neg c5, if_neg c18, if_neg c28, if_pos c39, if_pos c52]
            exact im_fin rfl rfl
        · refine lv_bipush (v := (-3)) hx hb dX6_insert_42 (by decide) ?_
          refine nh_iret hx hb hr rfl hlocks hw (Nat.zero_le _) (Nat.zero_le _) dX6_insert_44 ?_
          simp only [zf_insert, if_neg c5, if_neg c18, if_neg c28, if_neg c39]
          exact im_fin rfl rfl
      · refine lv_bipush (v := (-2)) hx hb dX6_insert_31 (by decide) ?_
        refine nh_iret hx hb hr rfl hlocks hw (Nat.zero_le _) (Nat.zero_le _) dX6_insert_33 ?_
        simp only [zf_insert, if_neg c5, if_neg c18, if_pos c28]
        exact im_fin rfl rfl
  · refine lv_iconst (v := (-1)) hx hb dX6_insert_8 (by decide) ?_
    refine nh_iret hx hb hr rfl hlocks hw (Nat.zero_le _) (Nat.zero_le _) dX6_insert_9 ?_
    simp only [zf_insert, if_pos c5]
    exact im_fin rfl rfl
def zf_mark (J : (nh_N → Nat → Int32))  (a : Int32) (b : Int32) (d : Int32) : Int32 × (nh_N → Nat → Int32) := (if (zf_isClass J a) = 0 then ((-1), J) else (if (zf_in J d 0 39) = 0 then ((-2), J) else (if (J zM 17) ≤ d then (if (J zM 13) = 300 then ((-4), J) else ((J zM 13) + 1, (iu (iu (iu (iu J (zA 14) (J zM 13).toNatClampNeg a) (zA 16) (J zM 13).toNatClampNeg b) (zA 15) (J zM 13).toNatClampNeg d) zM 13 ((J zM 13) + 1)))) else ((-3), J))))
set_option maxHeartbeats 4000000 in
set_option maxRecDepth 100000 in
theorem zc_mark (l : Launch) (D : va_G) (cA : Nat → ClassId) {S : nh_N → Option nh_C} {g : nh_N → Nat} {J : (nh_N → Nat → Int32)} {R : nh_N → Nat → Option nh_N} (hz : zSh S R) (a : Int32) (b : Int32) (d : Int32) (nm : Nat) (hnm : J zM 13 = nI nm) (hm3 : nm ≤ 300) : im_M l D cA yX6_mark vX6_mark 2 43 0 0 [.ref (g zM), .int a, .int b, .int d] S g J R (im_eq (some (.int (zf_mark J a b d).1)) S g (zf_mark J a b d).2 R) := by
  refine nh_of (cc := cX6_mark) (maxL := 4) (ret := (some .int)) (by decide) rfl (Nat.le_of_ble_eq_true rfl) ?_
  intro p e s m below meth c A ls hx hb hr hml hts hown hlocks hin hK hw hl
  have ht : ∀ w ∈ im_ws, w.before _ s = true := fun w h => hts w (List.mem_cons_of_mem _ h)
  have hl : lv_has ls 4 [(0, .ref (g zM)), (1, .int a), (2, .int b), (3, .int d)] := hl
  refine lv_aload_n hx hb dX6_mark_0 rfl (lv_at hl 0 rfl) ?_
  refine lv_iload_n hx hb dX6_mark_1 rfl (lv_at hl 1 rfl) ?_
  refine kcX6_isClass (As := [.int a]) (rest := []) wm6_82 (zc_isClass l D cA hz a) hx hb hml ht hown hK hw (zs_m hz) rfl rfl hl.1 rfl (by simp [Value.category]) ⟨by decide, by decide⟩ ⟨by simp, by simp⟩ dX6_mark_2 (fun v S1 g1 I1 R1 H locs hp hw => ?_)
  obtain ⟨rfl, h1, h2, h3, h4⟩ := hp
  rw [h1, h2, h3, h4] at hw
  clear h1 h2 h3 h4
  show W _ _ _ _ _ _ _ _ _ _ _ _ _ _ _ (F0 m 5 ls [.int (zf_isClass J a)])
  refine lv_if_ne (tgt := 10) hx hb dX6_mark_5 (by decide) (fun c5 => ?_) (fun c5 => ?_)
  · refine lv_iload_n hx hb dX6_mark_10 rfl (lv_at hl 3 rfl) ?_
    refine lv_iconst (v := 0) hx hb dX6_mark_11 (by decide) ?_
    refine lv_bipush (v := 39) hx hb dX6_mark_12 (by decide) ?_
    refine kcX6_in (As := [.int d, .int 0, .int 39]) (rest := []) wm6_78 (zc_in l D cA d 0 39) hx hb hml ht hown hK hw rfl hl.1 rfl (by simp [Value.category]) ⟨by decide, by decide⟩ ⟨by simp, by simp⟩ dX6_mark_14 (fun v S1 g1 I1 R1 H locs hp hw => ?_)
    obtain ⟨rfl, h1, h2, h3, h4⟩ := hp
    rw [h1, h2, h3, h4] at hw
    clear h1 h2 h3 h4
    show W _ _ _ _ _ _ _ _ _ _ _ _ _ _ _ (F0 m 17 ls [.int (zf_in J d 0 39)])
    refine lv_if_ne (tgt := 23) hx hb dX6_mark_17 (by decide) (fun c17 => ?_) (fun c17 => ?_)
    · refine lv_iload_n hx hb dX6_mark_23 rfl (lv_at hl 3 rfl) ?_
      refine lv_aload_n hx hb dX6_mark_24 rfl (lv_at hl 0 rfl) ?_
      refine fg6 (v := .int (J zM 17)) hx hb ht hown hK hw (zs_m hz) rfl 17 wf6_86 (by decide) (nh_vi rfl) dX6_mark_25 ?_
      refine lv_icmp_ge (tgt := 34) hx hb dX6_mark_28 (by decide) (fun c28 => ?_) (fun c28 => ?_)
      · refine lv_aload_n hx hb dX6_mark_34 rfl (lv_at hl 0 rfl) ?_
        refine fg6 (v := .int (J zM 13)) hx hb ht hown hK hw (zs_m hz) rfl 13 wf6_92 (by decide) (nh_vi rfl) dX6_mark_35 ?_
        refine lv_sipush (v := 300) hx hb dX6_mark_38 (by decide) ?_
        refine lv_icmp_ne (tgt := 47) hx hb dX6_mark_41 (by decide) (fun c41 => ?_) (fun c41 => ?_)
        · refine lv_aload_n hx hb dX6_mark_47 rfl (lv_at hl 0 rfl) ?_
          refine fg6 hx hb ht hown hK hw (zs_m hz) rfl 14 wf6_41 (by decide) (nh_vr rfl (zr14 hz)) dX6_mark_48 ?_
          refine lv_aload_n hx hb dX6_mark_51 rfl (lv_at hl 0 rfl) ?_
          refine fg6 (v := .int (J zM 13)) hx hb ht hown hK hw (zs_m hz) rfl 13 wf6_92 (by decide) (nh_vi rfl) dX6_mark_52 ?_
          refine lv_iload_n hx hb dX6_mark_55 rfl (lv_at hl 1 rfl) ?_
          refine ai_st hx hb hK hw (zs14 hz) rfl (ix_of nm (by simp [hnm]) (by rcases Nat.lt_or_ge nm 300 with h | h; exact h; exact absurd (by rw [hnm, show nm = 300 by omega]; rfl) c41) (by decide)) dX6_mark_56 (fun H locs J1 eJ1 hw => ?_)
          refine lv_aload_n hx hb dX6_mark_57 rfl (lv_at hl 0 rfl) ?_
          refine fg6 hx hb ht hown hK hw (zs_m hz) rfl 16 wf6_47 (by decide) (nh_vr rfl (zr16 hz)) dX6_mark_58 ?_
          refine lv_aload_n hx hb dX6_mark_61 rfl (lv_at hl 0 rfl) ?_
          refine fg6 (v := .int (J zM 13)) hx hb ht hown hK hw (zs_m hz) rfl 13 wf6_92 (by decide) (by simp [nh_v, im_sk, iu_e, zM, zA, eJ1]) dX6_mark_62 ?_
          refine lv_iload_n hx hb dX6_mark_65 rfl (lv_at hl 2 rfl) ?_
          refine ai_st hx hb hK hw (zs16 hz) rfl (ix_of nm (by simp [hnm]) (by rcases Nat.lt_or_ge nm 300 with h | h; exact h; exact absurd (by rw [hnm, show nm = 300 by omega]; rfl) c41) (by decide)) dX6_mark_66 (fun H locs J2 eJ2 hw => ?_)
          refine lv_aload_n hx hb dX6_mark_67 rfl (lv_at hl 0 rfl) ?_
          refine fg6 hx hb ht hown hK hw (zs_m hz) rfl 15 wf6_44 (by decide) (nh_vr rfl (zr15 hz)) dX6_mark_68 ?_
          refine lv_aload_n hx hb dX6_mark_71 rfl (lv_at hl 0 rfl) ?_
          refine fg6 (v := .int (J zM 13)) hx hb ht hown hK hw (zs_m hz) rfl 13 wf6_92 (by decide) (by simp [nh_v, im_sk, iu_e, zM, zA, eJ2, eJ1]) dX6_mark_72 ?_
          refine lv_iload_n hx hb dX6_mark_75 rfl (lv_at hl 3 rfl) ?_
          refine ai_st hx hb hK hw (zs15 hz) rfl (ix_of nm (by simp [hnm]) (by rcases Nat.lt_or_ge nm 300 with h | h; exact h; exact absurd (by rw [hnm, show nm = 300 by omega]; rfl) c41) (by decide)) dX6_mark_76 (fun H locs J3 eJ3 hw => ?_)
          refine lv_aload_n hx hb dX6_mark_77 rfl (lv_at hl 0 rfl) ?_
          refine lv_dup hx hb dX6_mark_78 rfl ?_
          refine fg6 (v := .int (J zM 13)) hx hb ht hown hK hw (zs_m hz) rfl 13 wf6_92 (by decide) (by simp [nh_v, im_sk, iu_e, zM, zA, eJ3, eJ2, eJ1]) dX6_mark_79 ?_
          refine lv_iconst (v := 1) hx hb dX6_mark_82 (by decide) ?_
          refine lv_iadd hx hb dX6_mark_83 ?_
          refine fp6 hx hb ht hown hK hw (zs_m hz) rfl 13 wf6_92 (by decide) rfl rfl rfl rfl dX6_mark_84 (fun H locs J4 eJ4 hw => ?_)
          refine lv_aload_n hx hb dX6_mark_87 rfl (lv_at hl 0 rfl) ?_
          refine fg6 (v := .int ((J zM 13) + 1)) hx hb ht hown hK hw (zs_m hz) rfl 13 wf6_92 (by decide) (by simp [nh_v, im_sk, iu_e, zM, zA, eJ4, eJ3, eJ2, eJ1]) dX6_mark_88 ?_
          refine nh_iret hx hb hr rfl hlocks hw (Nat.zero_le _) (Nat.zero_le _) dX6_mark_91 ?_
          subst eJ4
          subst eJ3
          subst eJ2
          subst eJ1
          simp only [zf_mark, if_neg c5, if_neg c17, if_pos c28, if_neg c41]
          exact im_fin rfl rfl
        · refine lv_bipush (v := (-4)) hx hb dX6_mark_44 (by decide) ?_
          refine nh_iret hx hb hr rfl hlocks hw (Nat.zero_le _) (Nat.zero_le _) dX6_mark_46 ?_
          simp only [zf_mark, if_neg c5, if_neg c17, if_pos c28, if_pos c41]
          exact im_fin rfl rfl
      · refine lv_bipush (v := (-3)) hx hb dX6_mark_31 (by decide) ?_
        refine nh_iret hx hb hr rfl hlocks hw (Nat.zero_le _) (Nat.zero_le _) dX6_mark_33 ?_
        simp only [zf_mark, if_neg c5, if_neg c17, if_neg c28]
        exact im_fin rfl rfl
    · refine lv_bipush (v := (-2)) hx hb dX6_mark_20 (by decide) ?_
      refine nh_iret hx hb hr rfl hlocks hw (Nat.zero_le _) (Nat.zero_le _) dX6_mark_22 ?_
      simp only [zf_mark, if_neg c5, if_pos c17]
      exact im_fin rfl rfl
  · refine lv_iconst (v := (-1)) hx hb dX6_mark_8 (by decide) ?_
    refine nh_iret hx hb hr rfl hlocks hw (Nat.zero_le _) (Nat.zero_le _) dX6_mark_9 ?_
    simp only [zf_mark, if_pos c5]
    exact im_fin rfl rfl
def zf_waits (J : (nh_N → Nat → Int32))  (a : Int32) : Int32 := (if (J (zA 11) a.toNatClampNeg) = 0 then (if (J (zA 8) a.toNatClampNeg) ≤ 0 then 0 else (if (J zM 17) < (J (zA 9) a.toNatClampNeg) then 0 else 1)) else 0)
set_option maxHeartbeats 4000000 in
set_option maxRecDepth 100000 in
theorem zc_waits (l : Launch) (D : va_G) (cA : Nat → ClassId) {S : nh_N → Option nh_C} {g : nh_N → Nat} {J : (nh_N → Nat → Int32)} {R : nh_N → Nat → Option nh_N} (hz : zSh S R) (a : Int32) (i : Nat) (hi : a = nI i) (hi2 : i < 200) : im_M l D cA yX6_waits vX6_waits 0 0 0 0 [.ref (g zM), .int a] S g J R (im_eq (some (.int (zf_waits J a))) S g J R) := by
  refine nh_of (cc := cX6_waits) (maxL := 2) (ret := (some .boolean)) (by decide) rfl (Nat.le_of_ble_eq_true rfl) ?_
  intro p e s m below meth c A ls hx hb hr hml hts hown hlocks hin hK hw hl
  have ht : ∀ w ∈ im_ws, w.before _ s = true := fun w h => hts w (List.mem_cons_of_mem _ h)
  have hl : lv_has ls 2 [(0, .ref (g zM)), (1, .int a)] := hl
  refine lv_aload_n hx hb dX6_waits_0 rfl (lv_at hl 0 rfl) ?_
  refine fg6 hx hb ht hown hK hw (zs_m hz) rfl 11 wf6_35 (by decide) (nh_vr rfl (zr11 hz)) dX6_waits_1 ?_
  refine lv_iload_n hx hb dX6_waits_4 rfl (lv_at hl 1 rfl) ?_
  refine az_ld hx hb hK hw (zs11 hz) rfl (ix_of i hi hi2 (by decide)) dX6_waits_5 ?_
  refine lv_if_ne (tgt := 35) hx hb dX6_waits_6 (by decide) (fun c6 => ?_) (fun c6 => ?_)
  · refine lv_iconst (v := 0) hx hb dX6_waits_35 (by decide) ?_
    refine nh_iret hx hb hr rfl hlocks hw (Nat.zero_le _) (Nat.zero_le _) dX6_waits_36 ?_
    simp only [zf_waits, if_neg c6]
    exact im_fin rfl rfl
  · refine lv_aload_n hx hb dX6_waits_9 rfl (lv_at hl 0 rfl) ?_
    refine fg6 hx hb ht hown hK hw (zs_m hz) rfl 8 wf6_26 (by decide) (nh_vr rfl (zr8 hz)) dX6_waits_10 ?_
    refine lv_iload_n hx hb dX6_waits_13 rfl (lv_at hl 1 rfl) ?_
    refine ai_ld hx hb hK hw (zs8 hz) rfl (ix_of i hi hi2 (by decide)) dX6_waits_14 ?_
    refine lv_if_le (tgt := 35) hx hb dX6_waits_15 (by decide) (fun c15 => ?_) (fun c15 => ?_)
    · refine lv_iconst (v := 0) hx hb dX6_waits_35 (by decide) ?_
      refine nh_iret hx hb hr rfl hlocks hw (Nat.zero_le _) (Nat.zero_le _) dX6_waits_36 ?_
      simp only [zf_waits, if_pos c6, if_pos c15]
      exact im_fin rfl rfl
    · refine lv_aload_n hx hb dX6_waits_18 rfl (lv_at hl 0 rfl) ?_
      refine fg6 hx hb ht hown hK hw (zs_m hz) rfl 9 wf6_29 (by decide) (nh_vr rfl (zr9 hz)) dX6_waits_19 ?_
      refine lv_iload_n hx hb dX6_waits_22 rfl (lv_at hl 1 rfl) ?_
      refine ai_ld hx hb hK hw (zs9 hz) rfl (ix_of i hi hi2 (by decide)) dX6_waits_23 ?_
      refine lv_aload_n hx hb dX6_waits_24 rfl (lv_at hl 0 rfl) ?_
      refine fg6 (v := .int (J zM 17)) hx hb ht hown hK hw (zs_m hz) rfl 17 wf6_86 (by decide) (nh_vi rfl) dX6_waits_25 ?_
      refine lv_icmp_gt (tgt := 35) hx hb dX6_waits_28 (by decide) (fun c28 => ?_) (fun c28 => ?_)
      · refine lv_iconst (v := 0) hx hb dX6_waits_35 (by decide) ?_
        refine nh_iret hx hb hr rfl hlocks hw (Nat.zero_le _) (Nat.zero_le _) dX6_waits_36 ?_
        simp only [zf_waits, if_pos c6, if_neg c15, if_pos c28]
        exact im_fin rfl rfl
      · refine lv_iconst (v := 1) hx hb dX6_waits_31 (by decide) ?_
        refine lv_goto (tgt := 36) hx hb dX6_waits_32 (by decide) ?_
        refine nh_iret hx hb hr rfl hlocks hw (Nat.zero_le _) (Nat.zero_le _) dX6_waits_36 ?_
        simp only [zf_waits, if_pos c6, if_neg c15, if_neg c28]
        exact im_fin rfl rfl
theorem zi_in {J : nh_N → Nat → Int32} {a x : Int32} {n N : Nat} (h : ¬ zf_in J a 0 (x - 1) = 0) (hx : x = nI n) (hn : n ≤ N) (hN : N < 2 ^ 30 := by decide) : vp_in a N := by
  unfold zf_in at h
  by_cases h1 : a < 0
  · simp [h1] at h
  · rw [if_neg h1] at h
    by_cases h2 : x - 1 < a
    · simp [h2] at h
    · obtain ⟨j, hj, rfl⟩ := nI_of h1
      refine vp_in_nI ?_ (by omega)
      subst hx
      rw [Int32.lt_iff_toInt_lt] at h2
      have e1 : (nI j).toInt = (j : Int) := nI_toInt hj
      have e2 : (nI n - 1).toInt = (n : Int) - 1 := by
        have := pk_sub_toInt (a := n) (b := 1) (by omega) (by omega)
        exact this
      rw [e1, e2] at h2
      omega
def zf_cancel (J : (nh_N → Nat → Int32))  (a : Int32) : Int32 × (nh_N → Nat → Int32) := (if (zf_in J a 0 ((J zM 6) - 1)) = 0 then ((-1), J) else (if 0 < (J (zA 12) a.toNatClampNeg) then ((-3), J) else (if (J (zA 11) a.toNatClampNeg) = 0 then (1, (iu (iu J (zA 11) a.toNatClampNeg 1) (zA 8) a.toNatClampNeg 0)) else ((-3), J))))
set_option maxHeartbeats 4000000 in
set_option maxRecDepth 100000 in
theorem zc_cancel (l : Launch) (D : va_G) (cA : Nat → ClassId) {S : nh_N → Option nh_C} {g : nh_N → Nat} {J : (nh_N → Nat → Int32)} {R : nh_N → Nat → Option nh_N} (hz : zSh S R) (a : Int32) (ni : Nat) (hni : J zM 6 = nI ni) (hi2 : ni ≤ 200) : im_M l D cA yX6_cancel vX6_cancel 1 22 0 0 [.ref (g zM), .int a] S g J R (im_eq (some (.int (zf_cancel J a).1)) S g (zf_cancel J a).2 R) := by
  refine nh_of (cc := cX6_cancel) (maxL := 2) (ret := (some .int)) (by decide) rfl (Nat.le_of_ble_eq_true rfl) ?_
  intro p e s m below meth c A ls hx hb hr hml hts hown hlocks hin hK hw hl
  have ht : ∀ w ∈ im_ws, w.before _ s = true := fun w h => hts w (List.mem_cons_of_mem _ h)
  have hl : lv_has ls 2 [(0, .ref (g zM)), (1, .int a)] := hl
  refine lv_iload_n hx hb dX6_cancel_0 rfl (lv_at hl 1 rfl) ?_
  refine lv_iconst (v := 0) hx hb dX6_cancel_1 (by decide) ?_
  refine lv_aload_n hx hb dX6_cancel_2 rfl (lv_at hl 0 rfl) ?_
  refine fg6 (v := .int (J zM 6)) hx hb ht hown hK hw (zs_m hz) rfl 6 wf6_89 (by decide) (nh_vi rfl) dX6_cancel_3 ?_
  refine lv_iconst (v := 1) hx hb dX6_cancel_6 (by decide) ?_
  refine lv_isub hx hb dX6_cancel_7 ?_
  refine kcX6_in (As := [.int a, .int 0, .int ((J zM 6) - 1)]) (rest := []) wm6_78 (zc_in l D cA a 0 ((J zM 6) - 1)) hx hb hml ht hown hK hw rfl hl.1 rfl (by simp [Value.category]) ⟨by decide, by decide⟩ ⟨by simp, by simp⟩ dX6_cancel_8 (fun v S1 g1 I1 R1 H locs hp hw => ?_)
  obtain ⟨rfl, h1, h2, h3, h4⟩ := hp
  rw [h1, h2, h3, h4] at hw
  clear h1 h2 h3 h4
  show W _ _ _ _ _ _ _ _ _ _ _ _ _ _ _ (F0 m 11 ls [.int (zf_in J a 0 ((J zM 6) - 1))])
  refine lv_if_ne (tgt := 16) hx hb dX6_cancel_11 (by decide) (fun c11 => ?_) (fun c11 => ?_)
  · refine lv_aload_n hx hb dX6_cancel_16 rfl (lv_at hl 0 rfl) ?_
    refine fg6 hx hb ht hown hK hw (zs_m hz) rfl 12 wf6_38 (by decide) (nh_vr rfl (zr12 hz)) dX6_cancel_17 ?_
    refine lv_iload_n hx hb dX6_cancel_20 rfl (lv_at hl 1 rfl) ?_
    refine ai_ld hx hb hK hw (zs12 hz) rfl (zi_in c11 hni hi2) dX6_cancel_21 ?_
    refine lv_if_gt (tgt := 34) hx hb dX6_cancel_22 (by decide) (fun c22 => ?_) (fun c22 => ?_)
    · refine lv_bipush (v := (-3)) hx hb dX6_cancel_34 (by decide) ?_
      refine nh_iret hx hb hr rfl hlocks hw (Nat.zero_le _) (Nat.zero_le _) dX6_cancel_36 ?_
      simp only [zf_cancel, if_neg c11, if_pos c22]
      exact im_fin rfl rfl
    · refine lv_aload_n hx hb dX6_cancel_25 rfl (lv_at hl 0 rfl) ?_
      refine fg6 hx hb ht hown hK hw (zs_m hz) rfl 11 wf6_35 (by decide) (nh_vr rfl (zr11 hz)) dX6_cancel_26 ?_
      refine lv_iload_n hx hb dX6_cancel_29 rfl (lv_at hl 1 rfl) ?_
      refine az_ld hx hb hK hw (zs11 hz) rfl (zi_in c11 hni hi2) dX6_cancel_30 ?_
      refine lv_if_eq (tgt := 37) hx hb dX6_cancel_31 (by decide) (fun c31 => ?_) (fun c31 => ?_)
      · refine lv_aload_n hx hb dX6_cancel_37 rfl (lv_at hl 0 rfl) ?_
        refine fg6 hx hb ht hown hK hw (zs_m hz) rfl 11 wf6_35 (by decide) (nh_vr rfl (zr11 hz)) dX6_cancel_38 ?_
        refine lv_iload_n hx hb dX6_cancel_41 rfl (lv_at hl 1 rfl) ?_
        refine lv_iconst (v := 1) hx hb dX6_cancel_42 (by decide) ?_
        refine az_st hx hb hK hw (zs11 hz) rfl (zi_in c11 hni hi2) rfl dX6_cancel_43 (fun H locs J1 eJ1 hw => ?_)
        refine lv_aload_n hx hb dX6_cancel_44 rfl (lv_at hl 0 rfl) ?_
        refine fg6 hx hb ht hown hK hw (zs_m hz) rfl 8 wf6_26 (by decide) (nh_vr rfl (zr8 hz)) dX6_cancel_45 ?_
        refine lv_iload_n hx hb dX6_cancel_48 rfl (lv_at hl 1 rfl) ?_
        refine lv_iconst (v := 0) hx hb dX6_cancel_49 (by decide) ?_
        refine ai_st hx hb hK hw (zs8 hz) rfl (zi_in c11 hni hi2) dX6_cancel_50 (fun H locs J2 eJ2 hw => ?_)
        refine lv_iconst (v := 1) hx hb dX6_cancel_51 (by decide) ?_
        refine nh_iret hx hb hr rfl hlocks hw (Nat.zero_le _) (Nat.zero_le _) dX6_cancel_52 ?_
        subst eJ2
        subst eJ1
        simp only [zf_cancel, if_neg c11, if_neg c22, if_pos c31]
        exact im_fin rfl rfl
      · refine lv_bipush (v := (-3)) hx hb dX6_cancel_34 (by decide) ?_
        refine nh_iret hx hb hr rfl hlocks hw (Nat.zero_le _) (Nat.zero_le _) dX6_cancel_36 ?_
        simp only [zf_cancel, if_neg c11, if_neg c22, if_neg c31]
        exact im_fin rfl rfl
  · refine lv_iconst (v := (-1)) hx hb dX6_cancel_14 (by decide) ?_
    refine nh_iret hx hb hr rfl hlocks hw (Nat.zero_le _) (Nat.zero_le _) dX6_cancel_15 ?_
    simp only [zf_cancel, if_pos c11]
    exact im_fin rfl rfl
def zl_standing (J : (nh_N → Nat → Int32))  (a : Int32) (b : Int32) : Nat → Nat → Int32 → Int32
  | 0, j, x3 => x3
  | r + 1, j, x3 => (if (J (zA 19) (nI j).toNatClampNeg) = a then (if b < 0 then zl_standing J  a b r (j + 1) (x3 + (J (zA 21) (nI j).toNatClampNeg)) else (if (J (zA 7) (J (zA 20) (nI j).toNatClampNeg).toNatClampNeg) = b then zl_standing J  a b r (j + 1) (x3 + (J (zA 21) (nI j).toNatClampNeg)) else zl_standing J  a b r (j + 1) (x3 + 0))) else zl_standing J  a b r (j + 1) (x3 + 0))
def zf_standing (J : (nh_N → Nat → Int32))  (np : Nat) (a : Int32) (b : Int32) : Int32 := zl_standing J  a b np 0 0
set_option maxHeartbeats 4000000 in
set_option maxRecDepth 100000 in
theorem zc_standing (l : Launch) (D : va_G) (cA : Nat → ClassId) {S : nh_N → Option nh_C} {g : nh_N → Nat} {J : (nh_N → Nat → Int32)} {R : nh_N → Nat → Option nh_N} (hz : zSh S R) (a : Int32) (b : Int32) (np : Nat) (hnp : J zM 18 = nI np) (hp9 : np ≤ 9000) (hpi : ∀ q, q < np → ∃ i, i < 200 ∧ J (zA 20) q = nI i) : im_M l D cA yX6_standing vX6_standing 0 0 0 0 [.ref (g zM), .int a, .int b] S g J R (im_eq (some (.int (zf_standing J  np a b))) S g J R) := by
  refine nh_of (cc := cX6_standing) (maxL := 5) (ret := (some .int)) (by decide) rfl (Nat.le_of_ble_eq_true rfl) ?_
  intro p e s m below meth c A ls hx hb hr hml hts hown hlocks hin hK hw hl
  have ht : ∀ w ∈ im_ws, w.before _ s = true := fun w h => hts w (List.mem_cons_of_mem _ h)
  have hl : lv_has ls 5 [(0, .ref (g zM)), (1, .int a), (2, .int b)] := hl
  have loop : ∀ (r j : Nat) (x3 : Int32) (ls : Array Slot) (H : Heap) (locs : List Loc), nh_S D im_cl im_sk cA A s.heap S g J R H locs → j + r = np → lv_has ls 5 [(0, .ref (g zM)), (1, .int a), (2, .int b), (3, .int x3), (4, .int (nI j))] → W p l e { frames := 0, cells := 0, slots := 0, locals := 0 } s m ([.ref (g zM), .int a, .int b] : List Value).toArray below meth c H locs 0 0 (MQ below (nh_Q D im_cl im_sk cA A (im_eq (some (.int (zl_standing J  a b r j x3))) S g J R)) ([.ref (g zM), .int a, .int b] : List Value).toArray s 0 0 A) (F0 m 5 ls []) := by
    intro r
    induction r with
    | zero =>
      intro j x3 ls H locs hw hj hl
      refine lv_iload hx hb dX6_standing_5 (lv_at hl 4 rfl) ?_
      refine lv_aload_n hx hb dX6_standing_7 rfl (lv_at hl 0 rfl) ?_
      refine fg6 (v := .int (J zM 18)) hx hb ht hown hK hw (zs_m hz) rfl 18 wf6_95 (by decide) (nh_vi rfl) dX6_standing_8 ?_
      refine lv_icmp_ge (tgt := 65) hx hb dX6_standing_11 (by decide) (fun c11 => ?_) (fun c11 => ?_)
      · refine lv_iload_n hx hb dX6_standing_65 rfl (lv_at hl 3 rfl) ?_
        refine nh_iret hx hb hr rfl hlocks hw (Nat.zero_le _) (Nat.zero_le _) dX6_standing_66 ?_
        exact im_fin rfl rfl
      · exact absurd (by rw [hnp]; exact nI_le (by omega) (by omega)) c11
    | succ r ih =>
      intro j x3 ls H locs hw hj hl
      have hj9 : vp_in (nI j) 9000 := vp_in_nI (by omega) (by decide)
      have hjc : (nI j).toNatClampNeg = j := nI_clamp (by omega)
      obtain ⟨i9, hi9, ei9⟩ := hpi j (by omega)
      refine lv_iload hx hb dX6_standing_5 (lv_at hl 4 rfl) ?_
      refine lv_aload_n hx hb dX6_standing_7 rfl (lv_at hl 0 rfl) ?_
      refine fg6 (v := .int (J zM 18)) hx hb ht hown hK hw (zs_m hz) rfl 18 wf6_95 (by decide) (nh_vi rfl) dX6_standing_8 ?_
      refine lv_icmp_ge (tgt := 65) hx hb dX6_standing_11 (by decide) (fun c11 => ?_) (fun c11 => ?_)
      · exact absurd c11 (by rw [hnp]; exact nI_ge (by omega) (by omega))
      · refine lv_iload_n hx hb dX6_standing_14 rfl (lv_at hl 3 rfl) ?_
        refine lv_aload_n hx hb dX6_standing_15 rfl (lv_at hl 0 rfl) ?_
        refine fg6 hx hb ht hown hK hw (zs_m hz) rfl 19 wf6_50 (by decide) (nh_vr rfl (zr19 hz)) dX6_standing_16 ?_
        refine lv_iload hx hb dX6_standing_19 (lv_at hl 4 rfl) ?_
        refine ai_ld hx hb hK hw (zs19 hz) rfl hj9 dX6_standing_21 ?_
        refine lv_iload_n hx hb dX6_standing_22 rfl (lv_at hl 1 rfl) ?_
        refine lv_icmp_ne (tgt := 56) hx hb dX6_standing_23 (by decide) (fun c23 => ?_) (fun c23 => ?_)
        · refine lv_iconst (v := 0) hx hb dX6_standing_56 (by decide) ?_
          refine lv_iadd hx hb dX6_standing_57 ?_
          refine lv_istore_n (lv' := [(3, .int (x3 + 0)), (0, .ref (g zM)), (1, .int a), (2, .int b), (4, .int (nI j))]) hx hb dX6_standing_58 rfl hl (by decide) rfl (fun ls hl => ?_)
          refine lv_iinc (v := (nI j) + 1) (lv' := [(4, .int ((nI j) + 1)), (3, .int (x3 + 0)), (0, .ref (g zM)), (1, .int a), (2, .int b)]) hx hb dX6_standing_59 hl (k := 4) rfl rfl (by decide) rfl (fun ls hl => ?_)
          refine lv_goto (tgt := 5) hx hb dX6_standing_62 (by decide) ?_
          have h9 : lv_has ls 5 [(0, .ref (g zM)), (1, .int a), (2, .int b), (3, .int (x3 + 0)), (4, .int ((nI j) + 1))] := lv_sub hl [2, 3, 4, 1, 0] rfl
          rw [nI_1] at h9
          simp only [zl_standing, if_neg c23]
          exact ih (j + 1) (x3 + 0) ls _ _ hw (by omega) h9
        · refine lv_iload_n hx hb dX6_standing_26 rfl (lv_at hl 2 rfl) ?_
          refine lv_if_lt (tgt := 46) hx hb dX6_standing_27 (by decide) (fun c27 => ?_) (fun c27 => ?_)
          · refine lv_aload_n hx hb dX6_standing_46 rfl (lv_at hl 0 rfl) ?_
            refine fg6 hx hb ht hown hK hw (zs_m hz) rfl 21 wf6_56 (by decide) (nh_vr rfl (zr21 hz)) dX6_standing_47 ?_
            refine lv_iload hx hb dX6_standing_50 (lv_at hl 4 rfl) ?_
            refine ai_ld hx hb hK hw (zs21 hz) rfl hj9 dX6_standing_52 ?_
            refine lv_goto (tgt := 57) hx hb dX6_standing_53 (by decide) ?_
            refine lv_iadd hx hb dX6_standing_57 ?_
            refine lv_istore_n (lv' := [(3, .int (x3 + (J (zA 21) (nI j).toNatClampNeg))), (0, .ref (g zM)), (1, .int a), (2, .int b), (4, .int (nI j))]) hx hb dX6_standing_58 rfl hl (by decide) rfl (fun ls hl => ?_)
            refine lv_iinc (v := (nI j) + 1) (lv' := [(4, .int ((nI j) + 1)), (3, .int (x3 + (J (zA 21) (nI j).toNatClampNeg))), (0, .ref (g zM)), (1, .int a), (2, .int b)]) hx hb dX6_standing_59 hl (k := 4) rfl rfl (by decide) rfl (fun ls hl => ?_)
            refine lv_goto (tgt := 5) hx hb dX6_standing_62 (by decide) ?_
            have h9 : lv_has ls 5 [(0, .ref (g zM)), (1, .int a), (2, .int b), (3, .int (x3 + (J (zA 21) (nI j).toNatClampNeg))), (4, .int ((nI j) + 1))] := lv_sub hl [2, 3, 4, 1, 0] rfl
            rw [nI_1] at h9
            simp only [zl_standing, if_pos c23, if_pos c27]
            exact ih (j + 1) (x3 + (J (zA 21) (nI j).toNatClampNeg)) ls _ _ hw (by omega) h9
          · refine lv_aload_n hx hb dX6_standing_30 rfl (lv_at hl 0 rfl) ?_
            refine fg6 hx hb ht hown hK hw (zs_m hz) rfl 7 wf6_23 (by decide) (nh_vr rfl (zr7 hz)) dX6_standing_31 ?_
            refine lv_aload_n hx hb dX6_standing_34 rfl (lv_at hl 0 rfl) ?_
            refine fg6 hx hb ht hown hK hw (zs_m hz) rfl 20 wf6_53 (by decide) (nh_vr rfl (zr20 hz)) dX6_standing_35 ?_
            refine lv_iload hx hb dX6_standing_38 (lv_at hl 4 rfl) ?_
            refine ai_ld hx hb hK hw (zs20 hz) rfl hj9 dX6_standing_40 ?_
            refine ai_ld hx hb hK hw (zs7 hz) rfl (ix_of i9 (by rw [hjc]; exact ei9) hi9 (by decide)) dX6_standing_41 ?_
            refine lv_iload_n hx hb dX6_standing_42 rfl (lv_at hl 2 rfl) ?_
            refine lv_icmp_ne (tgt := 56) hx hb dX6_standing_43 (by decide) (fun c43 => ?_) (fun c43 => ?_)
            · refine lv_iconst (v := 0) hx hb dX6_standing_56 (by decide) ?_
              refine lv_iadd hx hb dX6_standing_57 ?_
              refine lv_istore_n (lv' := [(3, .int (x3 + 0)), (0, .ref (g zM)), (1, .int a), (2, .int b), (4, .int (nI j))]) hx hb dX6_standing_58 rfl hl (by decide) rfl (fun ls hl => ?_)
              refine lv_iinc (v := (nI j) + 1) (lv' := [(4, .int ((nI j) + 1)), (3, .int (x3 + 0)), (0, .ref (g zM)), (1, .int a), (2, .int b)]) hx hb dX6_standing_59 hl (k := 4) rfl rfl (by decide) rfl (fun ls hl => ?_)
              refine lv_goto (tgt := 5) hx hb dX6_standing_62 (by decide) ?_
              have h9 : lv_has ls 5 [(0, .ref (g zM)), (1, .int a), (2, .int b), (3, .int (x3 + 0)), (4, .int ((nI j) + 1))] := lv_sub hl [2, 3, 4, 1, 0] rfl
              rw [nI_1] at h9
              simp only [zl_standing, if_pos c23, if_neg c27, if_neg c43]
              exact ih (j + 1) (x3 + 0) ls _ _ hw (by omega) h9
            · refine lv_aload_n hx hb dX6_standing_46 rfl (lv_at hl 0 rfl) ?_
              refine fg6 hx hb ht hown hK hw (zs_m hz) rfl 21 wf6_56 (by decide) (nh_vr rfl (zr21 hz)) dX6_standing_47 ?_
              refine lv_iload hx hb dX6_standing_50 (lv_at hl 4 rfl) ?_
              refine ai_ld hx hb hK hw (zs21 hz) rfl hj9 dX6_standing_52 ?_
              refine lv_goto (tgt := 57) hx hb dX6_standing_53 (by decide) ?_
              refine lv_iadd hx hb dX6_standing_57 ?_
              refine lv_istore_n (lv' := [(3, .int (x3 + (J (zA 21) (nI j).toNatClampNeg))), (0, .ref (g zM)), (1, .int a), (2, .int b), (4, .int (nI j))]) hx hb dX6_standing_58 rfl hl (by decide) rfl (fun ls hl => ?_)
              refine lv_iinc (v := (nI j) + 1) (lv' := [(4, .int ((nI j) + 1)), (3, .int (x3 + (J (zA 21) (nI j).toNatClampNeg))), (0, .ref (g zM)), (1, .int a), (2, .int b)]) hx hb dX6_standing_59 hl (k := 4) rfl rfl (by decide) rfl (fun ls hl => ?_)
              refine lv_goto (tgt := 5) hx hb dX6_standing_62 (by decide) ?_
              have h9 : lv_has ls 5 [(0, .ref (g zM)), (1, .int a), (2, .int b), (3, .int (x3 + (J (zA 21) (nI j).toNatClampNeg))), (4, .int ((nI j) + 1))] := lv_sub hl [2, 3, 4, 1, 0] rfl
              rw [nI_1] at h9
              simp only [zl_standing, if_pos c23, if_neg c27, if_pos c43]
              exact ih (j + 1) (x3 + (J (zA 21) (nI j).toNatClampNeg)) ls _ _ hw (by omega) h9
  refine lv_iconst (v := 0) hx hb dX6_standing_0 (by decide) ?_
  refine lv_istore_n (lv' := [(3, .int 0), (0, .ref (g zM)), (1, .int a), (2, .int b)]) hx hb dX6_standing_1 rfl hl (by decide) rfl (fun ls hl => ?_)
  refine lv_iconst (v := 0) hx hb dX6_standing_2 (by decide) ?_
  refine lv_istore (lv' := [(4, .int 0), (3, .int 0), (0, .ref (g zM)), (1, .int a), (2, .int b)]) hx hb dX6_standing_3 hl (by decide) rfl (fun ls hl => ?_)
  exact loop np 0 0 ls _ _ hw (by omega) (by rw [nI_0]; exact lv_sub hl [2, 3, 4, 1, 0] rfl)
def zl_isIn (J : (nh_N → Nat → Int32))  (a : Int32) (b : Int32) : Nat → Nat → Int32 → Int32
  | 0, j, x3 => x3
  | r + 1, j, x3 => (if x3 = 0 then (if (J (zA 26) (nI j).toNatClampNeg) = a then zl_isIn J  a b r (j + 1) 1 else zl_isIn J  a b r (j + 1) 0) else zl_isIn J  a b r (j + 1) 1)
def zf_isIn (J : (nh_N → Nat → Int32))  (mn : Nat) (a : Int32) (b : Int32) : Int32 := zl_isIn J  a b mn 0 0
set_option maxHeartbeats 4000000 in
set_option maxRecDepth 100000 in
theorem zc_isIn (l : Launch) (D : va_G) (cA : Nat → ClassId) {S : nh_N → Option nh_C} {g : nh_N → Nat} {J : (nh_N → Nat → Int32)} {R : nh_N → Nat → Option nh_N} (hz : zSh S R) (a : Int32) (b : Int32) (mn : Nat) (hmn : b = nI mn) (hm2 : mn ≤ 200) : im_M l D cA yX6_isIn vX6_isIn 0 0 0 0 [.ref (g zM), .int a, .int b] S g J R (im_eq (some (.int (zf_isIn J  mn a b))) S g J R) := by
  refine nh_of (cc := cX6_isIn) (maxL := 5) (ret := (some .boolean)) (by decide) rfl (Nat.le_of_ble_eq_true rfl) ?_
  intro p e s m below meth c A ls hx hb hr hml hts hown hlocks hin hK hw hl
  have ht : ∀ w ∈ im_ws, w.before _ s = true := fun w h => hts w (List.mem_cons_of_mem _ h)
  have hl : lv_has ls 5 [(0, .ref (g zM)), (1, .int a), (2, .int b)] := hl
  have loop : ∀ (r j : Nat) (x3 : Int32) (ls : Array Slot) (H : Heap) (locs : List Loc), nh_S D im_cl im_sk cA A s.heap S g J R H locs → j + r = mn → (x3 = 0 ∨ x3 = 1) → lv_has ls 5 [(0, .ref (g zM)), (1, .int a), (2, .int b), (3, .int x3), (4, .int (nI j))] → W p l e { frames := 0, cells := 0, slots := 0, locals := 0 } s m ([.ref (g zM), .int a, .int b] : List Value).toArray below meth c H locs 0 0 (MQ below (nh_Q D im_cl im_sk cA A (im_eq (some (.int (zl_isIn J  a b r j x3))) S g J R)) ([.ref (g zM), .int a, .int b] : List Value).toArray s 0 0 A) (F0 m 5 ls []) := by
    intro r
    induction r with
    | zero =>
      intro j x3 ls H locs hw hj hinv hl
      refine lv_iload hx hb dX6_isIn_5 (lv_at hl 4 rfl) ?_
      refine lv_iload_n hx hb dX6_isIn_7 rfl (lv_at hl 2 rfl) ?_
      refine lv_icmp_ge (tgt := 38) hx hb dX6_isIn_8 (by decide) (fun c8 => ?_) (fun c8 => ?_)
      · refine lv_iload_n hx hb dX6_isIn_38 rfl (lv_at hl 3 rfl) ?_
        refine nh_iret hx hb hr (nb_of hinv) hlocks hw (Nat.zero_le _) (Nat.zero_le _) dX6_isIn_39 ?_
        exact im_fin rfl rfl
      · exact absurd (by rw [hmn]; exact nI_le (by omega) (by omega)) c8
    | succ r ih =>
      intro j x3 ls H locs hw hj hinv hl
      have hj9 : vp_in (nI j) 200 := vp_in_nI (by omega) (by decide)
      refine lv_iload hx hb dX6_isIn_5 (lv_at hl 4 rfl) ?_
      refine lv_iload_n hx hb dX6_isIn_7 rfl (lv_at hl 2 rfl) ?_
      refine lv_icmp_ge (tgt := 38) hx hb dX6_isIn_8 (by decide) (fun c8 => ?_) (fun c8 => ?_)
      · exact absurd c8 (by rw [hmn]; exact nI_ge (by omega) (by omega))
      · refine lv_iload_n hx hb dX6_isIn_11 rfl (lv_at hl 3 rfl) ?_
        refine lv_if_ne (tgt := 26) hx hb dX6_isIn_12 (by decide) (fun c12 => ?_) (fun c12 => ?_)
        · refine lv_iconst (v := 1) hx hb dX6_isIn_26 (by decide) ?_
          refine lv_goto (tgt := 31) hx hb dX6_isIn_27 (by decide) ?_
          refine lv_istore_n (lv' := [(3, .int 1), (0, .ref (g zM)), (1, .int a), (2, .int b), (4, .int (nI j))]) hx hb dX6_isIn_31 rfl hl (by decide) rfl (fun ls hl => ?_)
          refine lv_iinc (v := (nI j) + 1) (lv' := [(4, .int ((nI j) + 1)), (3, .int 1), (0, .ref (g zM)), (1, .int a), (2, .int b)]) hx hb dX6_isIn_32 hl (k := 4) rfl rfl (by decide) rfl (fun ls hl => ?_)
          refine lv_goto (tgt := 5) hx hb dX6_isIn_35 (by decide) ?_
          have h9 : lv_has ls 5 [(0, .ref (g zM)), (1, .int a), (2, .int b), (3, .int 1), (4, .int ((nI j) + 1))] := lv_sub hl [2, 3, 4, 1, 0] rfl
          rw [nI_1] at h9
          simp only [zl_isIn, if_neg c12]
          exact ih (j + 1) 1 ls _ _ hw (by omega) (by simp) h9
        · refine lv_aload_n hx hb dX6_isIn_15 rfl (lv_at hl 0 rfl) ?_
          refine fg6 hx hb ht hown hK hw (zs_m hz) rfl 26 wf6_65 (by decide) (nh_vr rfl (zr26 hz)) dX6_isIn_16 ?_
          refine lv_iload hx hb dX6_isIn_19 (lv_at hl 4 rfl) ?_
          refine ai_ld hx hb hK hw (zs26 hz) rfl hj9 dX6_isIn_21 ?_
          refine lv_iload_n hx hb dX6_isIn_22 rfl (lv_at hl 1 rfl) ?_
          refine lv_icmp_ne (tgt := 30) hx hb dX6_isIn_23 (by decide) (fun c23 => ?_) (fun c23 => ?_)
          · refine lv_iconst (v := 0) hx hb dX6_isIn_30 (by decide) ?_
            refine lv_istore_n (lv' := [(3, .int 0), (0, .ref (g zM)), (1, .int a), (2, .int b), (4, .int (nI j))]) hx hb dX6_isIn_31 rfl hl (by decide) rfl (fun ls hl => ?_)
            refine lv_iinc (v := (nI j) + 1) (lv' := [(4, .int ((nI j) + 1)), (3, .int 0), (0, .ref (g zM)), (1, .int a), (2, .int b)]) hx hb dX6_isIn_32 hl (k := 4) rfl rfl (by decide) rfl (fun ls hl => ?_)
            refine lv_goto (tgt := 5) hx hb dX6_isIn_35 (by decide) ?_
            have h9 : lv_has ls 5 [(0, .ref (g zM)), (1, .int a), (2, .int b), (3, .int 0), (4, .int ((nI j) + 1))] := lv_sub hl [2, 3, 4, 1, 0] rfl
            rw [nI_1] at h9
            simp only [zl_isIn, if_pos c12, if_neg c23]
            exact ih (j + 1) 0 ls _ _ hw (by omega) (by simp) h9
          · refine lv_iconst (v := 1) hx hb dX6_isIn_26 (by decide) ?_
            refine lv_goto (tgt := 31) hx hb dX6_isIn_27 (by decide) ?_
            refine lv_istore_n (lv' := [(3, .int 1), (0, .ref (g zM)), (1, .int a), (2, .int b), (4, .int (nI j))]) hx hb dX6_isIn_31 rfl hl (by decide) rfl (fun ls hl => ?_)
            refine lv_iinc (v := (nI j) + 1) (lv' := [(4, .int ((nI j) + 1)), (3, .int 1), (0, .ref (g zM)), (1, .int a), (2, .int b)]) hx hb dX6_isIn_32 hl (k := 4) rfl rfl (by decide) rfl (fun ls hl => ?_)
            refine lv_goto (tgt := 5) hx hb dX6_isIn_35 (by decide) ?_
            have h9 : lv_has ls 5 [(0, .ref (g zM)), (1, .int a), (2, .int b), (3, .int 1), (4, .int ((nI j) + 1))] := lv_sub hl [2, 3, 4, 1, 0] rfl
            rw [nI_1] at h9
            simp only [zl_isIn, if_pos c12, if_pos c23]
            exact ih (j + 1) 1 ls _ _ hw (by omega) (by simp) h9
  refine lv_iconst (v := 0) hx hb dX6_isIn_0 (by decide) ?_
  refine lv_istore_n (lv' := [(3, .int 0), (0, .ref (g zM)), (1, .int a), (2, .int b)]) hx hb dX6_isIn_1 rfl hl (by decide) rfl (fun ls hl => ?_)
  refine lv_iconst (v := 0) hx hb dX6_isIn_2 (by decide) ?_
  refine lv_istore (lv' := [(4, .int 0), (3, .int 0), (0, .ref (g zM)), (1, .int a), (2, .int b)]) hx hb dX6_isIn_3 hl (by decide) rfl (fun ls hl => ?_)
  exact loop mn 0 0 ls _ _ hw (by omega) (by simp) (by rw [nI_0]; exact lv_sub hl [2, 3, 4, 1, 0] rfl)
theorem zb_isIn (J : nh_N → Nat → Int32) (a b : Int32) : ∀ (r j : Nat) (x : Int32), x = 0 ∨ x = 1 → zl_isIn J a b r j x = 0 ∨ zl_isIn J a b r j x = 1 := by
  intro r
  induction r with
  | zero => intro j x h; exact h
  | succ r ih =>
    intro j x h
    unfold zl_isIn
    split
    · split <;> exact ih _ _ (by simp)
    · exact ih _ _ (by simp)
theorem zb_waits (J : nh_N → Nat → Int32) (a : Int32) : zf_waits J a = 0 ∨ zf_waits J a = 1 := by
  unfold zf_waits
  split <;> (try split) <;> (try split) <;> simp
end
section
def zl_partAt (J : (nh_N → Nat → Int32))  (a : Int32) (b : Int32) : Nat → Nat → Int32 → Int32
  | 0, j, x3 => (-1)
  | r + 1, j, x3 => (if b < 0 then (-1) else (if (J (zA 19) (nI j).toNatClampNeg) = a then (if x3 = 0 then (nI j) else zl_partAt J  a b r (j + 1) (x3 + (-1))) else zl_partAt J  a b r (j + 1) x3))
def zf_partAt (J : (nh_N → Nat → Int32))  (np : Nat) (a : Int32) (b : Int32) : Int32 := zl_partAt J  a b np 0 b
set_option maxHeartbeats 4000000 in
set_option maxRecDepth 100000 in
theorem zc_partAt (l : Launch) (D : va_G) (cA : Nat → ClassId) {S : nh_N → Option nh_C} {g : nh_N → Nat} {J : (nh_N → Nat → Int32)} {R : nh_N → Nat → Option nh_N} (hz : zSh S R) (a : Int32) (b : Int32) (np : Nat) (hnp : J zM 18 = nI np) (hp9 : np ≤ 9000) : im_M l D cA yX6_partAt vX6_partAt 0 0 0 0 [.ref (g zM), .int a, .int b] S g J R (im_eq (some (.int (zf_partAt J  np a b))) S g J R) := by
  refine nh_of (cc := cX6_partAt) (maxL := 5) (ret := (some .int)) (by decide) rfl (Nat.le_of_ble_eq_true rfl) ?_
  intro p e s m below meth c A ls hx hb hr hml hts hown hlocks hin hK hw hl
  have ht : ∀ w ∈ im_ws, w.before _ s = true := fun w h => hts w (List.mem_cons_of_mem _ h)
  have hl : lv_has ls 5 [(0, .ref (g zM)), (1, .int a), (2, .int b)] := hl
  have loop : ∀ (r j : Nat) (x3 : Int32) (ls : Array Slot) (H : Heap) (locs : List Loc), nh_S D im_cl im_sk cA A s.heap S g J R H locs → j + r = np → lv_has ls 5 [(0, .ref (g zM)), (1, .int a), (2, .int b), (3, .int x3), (4, .int (nI j))] → W p l e { frames := 0, cells := 0, slots := 0, locals := 0 } s m ([.ref (g zM), .int a, .int b] : List Value).toArray below meth c H locs 0 0 (MQ below (nh_Q D im_cl im_sk cA A (im_eq (some (.int (zl_partAt J  a b r j x3))) S g J R)) ([.ref (g zM), .int a, .int b] : List Value).toArray s 0 0 A) (F0 m 5 ls []) := by
    intro r
    induction r with
    | zero =>
      intro j x3 ls H locs hw hj hl
      refine lv_iload hx hb dX6_partAt_5 (lv_at hl 4 rfl) ?_
      refine lv_aload_n hx hb dX6_partAt_7 rfl (lv_at hl 0 rfl) ?_
      refine fg6 (v := .int (J zM 18)) hx hb ht hown hK hw (zs_m hz) rfl 18 wf6_95 (by decide) (nh_vi rfl) dX6_partAt_8 ?_
      refine lv_icmp_ge (tgt := 45) hx hb dX6_partAt_11 (by decide) (fun c11 => ?_) (fun c11 => ?_)
      · refine lv_iconst (v := (-1)) hx hb dX6_partAt_45 (by decide) ?_
        refine nh_iret hx hb hr rfl hlocks hw (Nat.zero_le _) (Nat.zero_le _) dX6_partAt_46 ?_
        exact im_fin rfl rfl
      · exact absurd (by rw [hnp]; exact nI_le (by omega) (by omega)) c11
    | succ r ih =>
      intro j x3 ls H locs hw hj hl
      have hj9 : vp_in (nI j) 9000 := vp_in_nI (by omega) (by decide)
      refine lv_iload hx hb dX6_partAt_5 (lv_at hl 4 rfl) ?_
      refine lv_aload_n hx hb dX6_partAt_7 rfl (lv_at hl 0 rfl) ?_
      refine fg6 (v := .int (J zM 18)) hx hb ht hown hK hw (zs_m hz) rfl 18 wf6_95 (by decide) (nh_vi rfl) dX6_partAt_8 ?_
      refine lv_icmp_ge (tgt := 45) hx hb dX6_partAt_11 (by decide) (fun c11 => ?_) (fun c11 => ?_)
      · exact absurd c11 (by rw [hnp]; exact nI_ge (by omega) (by omega))
      · refine lv_iload_n hx hb dX6_partAt_14 rfl (lv_at hl 2 rfl) ?_
        refine lv_if_lt (tgt := 45) hx hb dX6_partAt_15 (by decide) (fun c15 => ?_) (fun c15 => ?_)
        · refine lv_iconst (v := (-1)) hx hb dX6_partAt_45 (by decide) ?_
          refine nh_iret hx hb hr rfl hlocks hw (Nat.zero_le _) (Nat.zero_le _) dX6_partAt_46 ?_
          simp only [zl_partAt, if_pos c15]
          exact im_fin rfl rfl
        · refine lv_aload_n hx hb dX6_partAt_18 rfl (lv_at hl 0 rfl) ?_
          refine fg6 hx hb ht hown hK hw (zs_m hz) rfl 19 wf6_50 (by decide) (nh_vr rfl (zr19 hz)) dX6_partAt_19 ?_
          refine lv_iload hx hb dX6_partAt_22 (lv_at hl 4 rfl) ?_
          refine ai_ld hx hb hK hw (zs19 hz) rfl hj9 dX6_partAt_24 ?_
          refine lv_iload_n hx hb dX6_partAt_25 rfl (lv_at hl 1 rfl) ?_
          refine lv_icmp_ne (tgt := 39) hx hb dX6_partAt_26 (by decide) (fun c26 => ?_) (fun c26 => ?_)
          · refine lv_iinc (v := (nI j) + 1) (lv' := [(4, .int ((nI j) + 1)), (0, .ref (g zM)), (1, .int a), (2, .int b), (3, .int x3)]) hx hb dX6_partAt_39 hl (k := 4) rfl rfl (by decide) rfl (fun ls hl => ?_)
            refine lv_goto (tgt := 5) hx hb dX6_partAt_42 (by decide) ?_
            have h9 : lv_has ls 5 [(0, .ref (g zM)), (1, .int a), (2, .int b), (3, .int x3), (4, .int ((nI j) + 1))] := lv_sub hl [1, 2, 3, 4, 0] rfl
            rw [nI_1] at h9
            simp only [zl_partAt, if_neg c15, if_neg c26]
            exact ih (j + 1) x3 ls _ _ hw (by omega) h9
          · refine lv_iload_n hx hb dX6_partAt_29 rfl (lv_at hl 3 rfl) ?_
            refine lv_if_ne (tgt := 36) hx hb dX6_partAt_30 (by decide) (fun c30 => ?_) (fun c30 => ?_)
            · refine lv_iinc (v := x3 + (-1)) (lv' := [(3, .int (x3 + (-1))), (0, .ref (g zM)), (1, .int a), (2, .int b), (4, .int (nI j))]) hx hb dX6_partAt_36 hl (k := 3) rfl rfl (by decide) rfl (fun ls hl => ?_)
              refine lv_iinc (v := (nI j) + 1) (lv' := [(4, .int ((nI j) + 1)), (3, .int (x3 + (-1))), (0, .ref (g zM)), (1, .int a), (2, .int b)]) hx hb dX6_partAt_39 hl (k := 4) rfl rfl (by decide) rfl (fun ls hl => ?_)
              refine lv_goto (tgt := 5) hx hb dX6_partAt_42 (by decide) ?_
              have h9 : lv_has ls 5 [(0, .ref (g zM)), (1, .int a), (2, .int b), (3, .int (x3 + (-1))), (4, .int ((nI j) + 1))] := lv_sub hl [2, 3, 4, 1, 0] rfl
              rw [nI_1] at h9
              simp only [zl_partAt, if_neg c15, if_pos c26, if_neg c30]
              exact ih (j + 1) (x3 + (-1)) ls _ _ hw (by omega) h9
            · refine lv_iload hx hb dX6_partAt_33 (lv_at hl 4 rfl) ?_
              refine nh_iret hx hb hr rfl hlocks hw (Nat.zero_le _) (Nat.zero_le _) dX6_partAt_35 ?_
              simp only [zl_partAt, if_neg c15, if_pos c26, if_pos c30]
              exact im_fin rfl rfl
  refine lv_iload_n hx hb dX6_partAt_0 rfl (lv_at hl 2 rfl) ?_
  refine lv_istore_n (lv' := [(3, .int b), (0, .ref (g zM)), (1, .int a), (2, .int b)]) hx hb dX6_partAt_1 rfl hl (by decide) rfl (fun ls hl => ?_)
  refine lv_iconst (v := 0) hx hb dX6_partAt_2 (by decide) ?_
  refine lv_istore (lv' := [(4, .int 0), (3, .int b), (0, .ref (g zM)), (1, .int a), (2, .int b)]) hx hb dX6_partAt_3 hl (by decide) rfl (fun ls hl => ?_)
  exact loop np 0 b ls _ _ hw (by omega) (by rw [nI_0]; exact lv_sub hl [2, 3, 4, 1, 0] rfl)
theorem zb_partAt (J : nh_N → Nat → Int32) (a b : Int32) : ∀ (r j : Nat) (x : Int32) (N : Nat), j + r ≤ N → zl_partAt J a b r j x = -1 ∨ ∃ q, q < N ∧ zl_partAt J a b r j x = nI q := by
  intro r
  induction r with
  | zero => intro j x N h; exact Or.inl rfl
  | succ r ih =>
    intro j x N h
    unfold zl_partAt
    split
    · exact Or.inl rfl
    · split
      · split
        · exact Or.inr ⟨j, by omega, rfl⟩
        · exact ih _ _ N (by omega)
      · exact ih _ _ N (by omega)
theorem zx_partAt {J : nh_N → Nat → Int32} {np N : Nat} {a b : Int32} (hN : np ≤ N) (hN2 : N < 2 ^ 31) (h : ¬ zf_partAt J np a b < 0) : ∃ q, q < np ∧ zf_partAt J np a b = nI q := by
  rcases zb_partAt J a b np 0 b np (by omega) with h1 | h1
  · exact absurd (by show zl_partAt J a b np 0 b < 0; rw [h1]; decide) h
  · exact h1
def zf_placed (J : (nh_N → Nat → Int32)) (np : Nat) (a : Int32) (b : Int32) (d : Int32) : Int32 := (if (zf_partAt J np a b) < 0 then (-1) else (if (zf_in J d 0 3) = 0 then (-1) else (if d = 0 then (J (zA 20) (zf_partAt J np a b).toNatClampNeg) else (if d = 1 then (J (zA 21) (zf_partAt J np a b).toNatClampNeg) else (if d = 2 then (J (zA 10) (J (zA 20) (zf_partAt J np a b).toNatClampNeg).toNatClampNeg) else (if (J (zA 22) (zf_partAt J np a b).toNatClampNeg) = 0 then 0 else 1))))))
set_option maxHeartbeats 4000000 in
set_option maxRecDepth 100000 in
theorem zc_placed (l : Launch) (D : va_G) (cA : Nat → ClassId) {S : nh_N → Option nh_C} {g : nh_N → Nat} {J : (nh_N → Nat → Int32)} {R : nh_N → Nat → Option nh_N} (hz : zSh S R) (a : Int32) (b : Int32) (d : Int32) (np : Nat) (hnp : J zM 18 = nI np) (hp9 : np ≤ 9000) (hpi : ∀ q, q < np → ∃ i, i < 200 ∧ J (zA 20) q = nI i) : im_M l D cA yX6_placed vX6_placed 1 24 0 0 [.ref (g zM), .int a, .int b, .int d] S g J R (im_eq (some (.int (zf_placed J np a b d))) S g J R) := by
  refine nh_of (cc := cX6_placed) (maxL := 5) (ret := (some .int)) (by decide) rfl (Nat.le_of_ble_eq_true rfl) ?_
  intro p e s m below meth c A ls hx hb hr hml hts hown hlocks hin hK hw hl
  have ht : ∀ w ∈ im_ws, w.before _ s = true := fun w h => hts w (List.mem_cons_of_mem _ h)
  have hl : lv_has ls 5 [(0, .ref (g zM)), (1, .int a), (2, .int b), (3, .int d)] := hl
  refine lv_aload_n hx hb dX6_placed_0 rfl (lv_at hl 0 rfl) ?_
  refine lv_iload_n hx hb dX6_placed_1 rfl (lv_at hl 1 rfl) ?_
  refine lv_iload_n hx hb dX6_placed_2 rfl (lv_at hl 2 rfl) ?_
  refine kcX6_partAt (As := [.int a, .int b]) (rest := []) wm6_131 (zc_partAt l D cA hz a b np hnp hp9) hx hb hml ht hown hK hw (zs_m hz) rfl rfl hl.1 rfl (by simp [Value.category]) ⟨by decide, by decide⟩ ⟨by simp, by simp⟩ dX6_placed_3 (fun v S1 g1 I1 R1 H locs hp hw => ?_)
  obtain ⟨rfl, h1, h2, h3, h4⟩ := hp
  rw [h1, h2, h3, h4] at hw
  clear h1 h2 h3 h4
  show W _ _ _ _ _ _ _ _ _ _ _ _ _ _ _ (F0 m 6 ls [.int (zf_partAt J np a b)])
  refine lv_istore (lv' := [(4, .int (zf_partAt J np a b)), (0, .ref (g zM)), (1, .int a), (2, .int b), (3, .int d)]) hx hb dX6_placed_6 hl (by decide) rfl (fun ls hl => ?_)
  refine lv_iload hx hb dX6_placed_8 (lv_at hl 0 rfl) ?_
  refine lv_if_lt (tgt := 22) hx hb dX6_placed_10 (by decide) (fun c10 => ?_) (fun c10 => ?_)
  · refine lv_iconst (v := (-1)) hx hb dX6_placed_22 (by decide) ?_
    refine nh_iret hx hb hr rfl hlocks hw (Nat.zero_le _) (Nat.zero_le _) dX6_placed_23 ?_
    simp only [zf_placed, if_pos c10]
    exact im_fin rfl rfl
  · refine lv_iload_n hx hb dX6_placed_13 rfl (lv_at hl 4 rfl) ?_
    refine lv_iconst (v := 0) hx hb dX6_placed_14 (by decide) ?_
    refine lv_iconst (v := 3) hx hb dX6_placed_15 (by decide) ?_
    refine kcX6_in (As := [.int d, .int 0, .int 3]) (rest := []) wm6_78 (zc_in l D cA d 0 3) hx hb hml ht hown hK hw rfl hl.1 rfl (by simp [Value.category]) ⟨by decide, by decide⟩ ⟨by simp, by simp⟩ dX6_placed_16 (fun v S1 g1 I1 R1 H locs hp hw => ?_)
    obtain ⟨rfl, h1, h2, h3, h4⟩ := hp
    rw [h1, h2, h3, h4] at hw
    clear h1 h2 h3 h4
    show W _ _ _ _ _ _ _ _ _ _ _ _ _ _ _ (F0 m 19 ls [.int (zf_in J d 0 3)])
    refine lv_if_ne (tgt := 24) hx hb dX6_placed_19 (by decide) (fun c19 => ?_) (fun c19 => ?_)
    · obtain ⟨q9, hq9, eq9⟩ := zx_partAt (N := np) (Nat.le_refl _) (by omega) c10
      have hj9 : vp_in (zf_partAt J np a b) 9000 := ix_of q9 eq9 (by omega) (by decide)
      obtain ⟨i9, hi9, ei9⟩ := hpi q9 hq9
      have ei8 : J (zA 20) (zf_partAt J np a b).toNatClampNeg = nI i9 := by rw [eq9, nI_clamp (by omega)]; exact ei9
      refine lv_iload_n hx hb dX6_placed_24 rfl (lv_at hl 4 rfl) ?_
      refine lv_if_ne (tgt := 38) hx hb dX6_placed_25 (by decide) (fun c25 => ?_) (fun c25 => ?_)
      · refine lv_iload_n hx hb dX6_placed_38 rfl (lv_at hl 4 rfl) ?_
        refine lv_iconst (v := 1) hx hb dX6_placed_39 (by decide) ?_
        refine lv_icmp_ne (tgt := 53) hx hb dX6_placed_40 (by decide) (fun c40 => ?_) (fun c40 => ?_)
        · refine lv_iload_n hx hb dX6_placed_53 rfl (lv_at hl 4 rfl) ?_
          refine lv_iconst (v := 2) hx hb dX6_placed_54 (by decide) ?_
          refine lv_icmp_ne (tgt := 73) hx hb dX6_placed_55 (by decide) (fun c55 => ?_) (fun c55 => ?_)
          · refine lv_aload_n hx hb dX6_placed_73 rfl (lv_at hl 1 rfl) ?_
            refine fg6 hx hb ht hown hK hw (zs_m hz) rfl 22 wf6_59 (by decide) (nh_vr rfl (zr22 hz)) dX6_placed_74 ?_
            refine lv_iload hx hb dX6_placed_77 (lv_at hl 0 rfl) ?_
            refine az_ld hx hb hK hw (zs22 hz) rfl hj9 dX6_placed_79 ?_
            refine lv_if_eq (tgt := 87) hx hb dX6_placed_80 (by decide) (fun c80 => ?_) (fun c80 => ?_)
            · refine lv_iconst (v := 0) hx hb dX6_placed_87 (by decide) ?_
              refine nh_iret hx hb hr rfl hlocks hw (Nat.zero_le _) (Nat.zero_le _) dX6_placed_88 ?_
              simp only [zf_placed, if_neg c10, if_neg c19, if_neg c25, if_neg c40, if_neg c55, if_pos c80]
              exact im_fin rfl rfl
            · refine lv_iconst (v := 1) hx hb dX6_placed_83 (by decide) ?_
              refine lv_goto (tgt := 88) hx hb dX6_placed_84 (by decide) ?_
              refine nh_iret hx hb hr rfl hlocks hw (Nat.zero_le _) (Nat.zero_le _) dX6_placed_88 ?_
              simp only [zf_placed, if_neg c10, if_neg c19, if_neg c25, if_neg c40, if_neg c55, if_neg c80]
              exact im_fin rfl rfl
          · refine lv_aload_n hx hb dX6_placed_58 rfl (lv_at hl 1 rfl) ?_
            refine fg6 hx hb ht hown hK hw (zs_m hz) rfl 10 wf6_32 (by decide) (nh_vr rfl (zr10 hz)) dX6_placed_59 ?_
            refine lv_aload_n hx hb dX6_placed_62 rfl (lv_at hl 1 rfl) ?_
            refine fg6 hx hb ht hown hK hw (zs_m hz) rfl 20 wf6_53 (by decide) (nh_vr rfl (zr20 hz)) dX6_placed_63 ?_
            refine lv_iload hx hb dX6_placed_66 (lv_at hl 0 rfl) ?_
            refine ai_ld hx hb hK hw (zs20 hz) rfl hj9 dX6_placed_68 ?_
            refine ai_ld hx hb hK hw (zs10 hz) rfl (ix_of i9 ei8 hi9 (by decide)) dX6_placed_69 ?_
            refine lv_goto (tgt := 88) hx hb dX6_placed_70 (by decide) ?_
            refine nh_iret hx hb hr rfl hlocks hw (Nat.zero_le _) (Nat.zero_le _) dX6_placed_88 ?_
            simp only [zf_placed, if_neg c10, if_neg c19, if_neg c25, if_neg c40, if_pos c55]
            exact im_fin rfl rfl
        · refine lv_aload_n hx hb dX6_placed_43 rfl (lv_at hl 1 rfl) ?_
          refine fg6 hx hb ht hown hK hw (zs_m hz) rfl 21 wf6_56 (by decide) (nh_vr rfl (zr21 hz)) dX6_placed_44 ?_
          refine lv_iload hx hb dX6_placed_47 (lv_at hl 0 rfl) ?_
          refine ai_ld hx hb hK hw (zs21 hz) rfl hj9 dX6_placed_49 ?_
          refine lv_goto (tgt := 88) hx hb dX6_placed_50 (by decide) ?_
          refine nh_iret hx hb hr rfl hlocks hw (Nat.zero_le _) (Nat.zero_le _) dX6_placed_88 ?_
          simp only [zf_placed, if_neg c10, if_neg c19, if_neg c25, if_pos c40]
          exact im_fin rfl rfl
      · refine lv_aload_n hx hb dX6_placed_28 rfl (lv_at hl 1 rfl) ?_
        refine fg6 hx hb ht hown hK hw (zs_m hz) rfl 20 wf6_53 (by decide) (nh_vr rfl (zr20 hz)) dX6_placed_29 ?_
        refine lv_iload hx hb dX6_placed_32 (lv_at hl 0 rfl) ?_
        refine ai_ld hx hb hK hw (zs20 hz) rfl hj9 dX6_placed_34 ?_
        refine lv_goto (tgt := 88) hx hb dX6_placed_35 (by decide) ?_
        refine nh_iret hx hb hr rfl hlocks hw (Nat.zero_le _) (Nat.zero_le _) dX6_placed_88 ?_
        simp only [zf_placed, if_neg c10, if_neg c19, if_pos c25]
        exact im_fin rfl rfl
    · refine lv_iconst (v := (-1)) hx hb dX6_placed_22 (by decide) ?_
      refine nh_iret hx hb hr rfl hlocks hw (Nat.zero_le _) (Nat.zero_le _) dX6_placed_23 ?_
      simp only [zf_placed, if_neg c10, if_pos c19]
      exact im_fin rfl rfl
def zl_about (J : (nh_N → Nat → Int32))  (a : Int32) (b : Int32) : Nat → Nat → Int32 → Int32 → Int32
  | 0, j, x3, x4 => (if b = 0 then (J (zA 8) a.toNatClampNeg) else (if b = 1 then x3 else (if b = 2 then x4 else (if b = 3 then (if (J (zA 12) a.toNatClampNeg) ≤ 0 then (-1) else (J (zA 10) a.toNatClampNeg)) else (if b = 4 then (J (zA 12) a.toNatClampNeg) else (-2))))))
  | r + 1, j, x3, x4 => (if (J (zA 20) (nI j).toNatClampNeg) = a then (if 0 ≤ x3 then zl_about J  a b r (j + 1) x3 (J (zA 19) (nI j).toNatClampNeg) else zl_about J  a b r (j + 1) (J (zA 19) (nI j).toNatClampNeg) (J (zA 19) (nI j).toNatClampNeg)) else zl_about J  a b r (j + 1) x3 x4)
def zf_about (J : (nh_N → Nat → Int32))  (np : Nat) (a : Int32) (b : Int32) : Int32 := (if (zf_in J a 0 ((J zM 6) - 1)) = 0 then (-1) else zl_about J  a b np 0 (-1) (-1))
set_option maxHeartbeats 4000000 in
set_option maxRecDepth 100000 in
theorem zc_about (l : Launch) (D : va_G) (cA : Nat → ClassId) {S : nh_N → Option nh_C} {g : nh_N → Nat} {J : (nh_N → Nat → Int32)} {R : nh_N → Nat → Option nh_N} (hz : zSh S R) (a : Int32) (b : Int32) (ni : Nat) (hni : J zM 6 = nI ni) (hi2 : ni ≤ 200) (np : Nat) (hnp : J zM 18 = nI np) (hp9 : np ≤ 9000) : im_M l D cA yX6_about vX6_about 1 22 0 0 [.ref (g zM), .int a, .int b] S g J R (im_eq (some (.int (zf_about J  np a b))) S g J R) := by
  refine nh_of (cc := cX6_about) (maxL := 6) (ret := (some .int)) (by decide) rfl (Nat.le_of_ble_eq_true rfl) ?_
  intro p e s m below meth c A ls hx hb hr hml hts hown hlocks hin hK hw hl
  have ht : ∀ w ∈ im_ws, w.before _ s = true := fun w h => hts w (List.mem_cons_of_mem _ h)
  have hl : lv_has ls 6 [(0, .ref (g zM)), (1, .int a), (2, .int b)] := hl
  have loop : ∀ (r j : Nat) (x3 : Int32) (x4 : Int32) (ls : Array Slot) (H : Heap) (locs : List Loc), nh_S D im_cl im_sk cA A s.heap S g J R H locs → j + r = np → vp_in a 200 → lv_has ls 6 [(0, .ref (g zM)), (1, .int a), (2, .int b), (3, .int x3), (4, .int x4), (5, .int (nI j))] → W p l e { frames := 1, cells := 0, slots := 0, locals := 22 } s m ([.ref (g zM), .int a, .int b] : List Value).toArray below meth c H locs 0 0 (MQ below (nh_Q D im_cl im_sk cA A (im_eq (some (.int (zl_about J  a b r j x3 x4))) S g J R)) ([.ref (g zM), .int a, .int b] : List Value).toArray s 0 0 A) (F0 m 24 ls []) := by
    intro r
    induction r with
    | zero =>
      intro j x3 x4 ls H locs hw hj hinv hl
      refine lv_iload hx hb dX6_about_24 (lv_at hl 5 rfl) ?_
      refine lv_aload_n hx hb dX6_about_26 rfl (lv_at hl 0 rfl) ?_
      refine fg6 (v := .int (J zM 18)) hx hb ht hown hK hw (zs_m hz) rfl 18 wf6_95 (by decide) (nh_vi rfl) dX6_about_27 ?_
      refine lv_icmp_ge (tgt := 75) hx hb dX6_about_30 (by decide) (fun c30 => ?_) (fun c30 => ?_)
      · refine lv_iload_n hx hb dX6_about_75 rfl (lv_at hl 2 rfl) ?_
        by_cases c76_0 : b = 0
        · refine lv_tableIn (tgt := 112) hx hb dX6_about_76 (by rw [c76_0]; decide) (by rw [c76_0]; decide) (by rw [c76_0]; rfl) (by decide) ?_
          refine lv_aload_n hx hb dX6_about_112 rfl (lv_at hl 0 rfl) ?_
          refine fg6 hx hb ht hown hK hw (zs_m hz) rfl 8 wf6_26 (by decide) (nh_vr rfl (zr8 hz)) dX6_about_113 ?_
          refine lv_iload_n hx hb dX6_about_116 rfl (lv_at hl 1 rfl) ?_
          refine ai_ld hx hb hK hw (zs8 hz) rfl hinv dX6_about_117 ?_
          refine nh_iret hx hb hr rfl hlocks hw (Nat.zero_le _) (Nat.zero_le _) dX6_about_118 ?_
          simp only [zl_about, if_pos c76_0]
          exact im_fin rfl rfl
        by_cases c76_1 : b = 1
        · refine lv_tableIn (tgt := 119) hx hb dX6_about_76 (by rw [c76_1]; decide) (by rw [c76_1]; decide) (by rw [c76_1]; rfl) (by decide) ?_
          refine lv_iload_n hx hb dX6_about_119 rfl (lv_at hl 3 rfl) ?_
          refine nh_iret hx hb hr rfl hlocks hw (Nat.zero_le _) (Nat.zero_le _) dX6_about_120 ?_
          simp only [zl_about, if_neg c76_0, if_pos c76_1]
          exact im_fin rfl rfl
        by_cases c76_2 : b = 2
        · refine lv_tableIn (tgt := 121) hx hb dX6_about_76 (by rw [c76_2]; decide) (by rw [c76_2]; decide) (by rw [c76_2]; rfl) (by decide) ?_
          refine lv_iload hx hb dX6_about_121 (lv_at hl 4 rfl) ?_
          refine nh_iret hx hb hr rfl hlocks hw (Nat.zero_le _) (Nat.zero_le _) dX6_about_123 ?_
          simp only [zl_about, if_neg c76_0, if_neg c76_1, if_pos c76_2]
          exact im_fin rfl rfl
        by_cases c76_3 : b = 3
        · refine lv_tableIn (tgt := 124) hx hb dX6_about_76 (by rw [c76_3]; decide) (by rw [c76_3]; decide) (by rw [c76_3]; rfl) (by decide) ?_
          refine lv_aload_n hx hb dX6_about_124 rfl (lv_at hl 0 rfl) ?_
          refine fg6 hx hb ht hown hK hw (zs_m hz) rfl 12 wf6_38 (by decide) (nh_vr rfl (zr12 hz)) dX6_about_125 ?_
          refine lv_iload_n hx hb dX6_about_128 rfl (lv_at hl 1 rfl) ?_
          refine ai_ld hx hb hK hw (zs12 hz) rfl hinv dX6_about_129 ?_
          refine lv_if_le (tgt := 142) hx hb dX6_about_130 (by decide) (fun c130 => ?_) (fun c130 => ?_)
          · refine lv_iconst (v := (-1)) hx hb dX6_about_142 (by decide) ?_
            refine nh_iret hx hb hr rfl hlocks hw (Nat.zero_le _) (Nat.zero_le _) dX6_about_143 ?_
            simp only [zl_about, if_neg c76_0, if_neg c76_1, if_neg c76_2, if_pos c76_3, if_pos c130]
            exact im_fin rfl rfl
          · refine lv_aload_n hx hb dX6_about_133 rfl (lv_at hl 0 rfl) ?_
            refine fg6 hx hb ht hown hK hw (zs_m hz) rfl 10 wf6_32 (by decide) (nh_vr rfl (zr10 hz)) dX6_about_134 ?_
            refine lv_iload_n hx hb dX6_about_137 rfl (lv_at hl 1 rfl) ?_
            refine ai_ld hx hb hK hw (zs10 hz) rfl hinv dX6_about_138 ?_
            refine lv_goto (tgt := 143) hx hb dX6_about_139 (by decide) ?_
            refine nh_iret hx hb hr rfl hlocks hw (Nat.zero_le _) (Nat.zero_le _) dX6_about_143 ?_
            simp only [zl_about, if_neg c76_0, if_neg c76_1, if_neg c76_2, if_pos c76_3, if_neg c130]
            exact im_fin rfl rfl
        by_cases c76_4 : b = 4
        · refine lv_tableIn (tgt := 144) hx hb dX6_about_76 (by rw [c76_4]; decide) (by rw [c76_4]; decide) (by rw [c76_4]; rfl) (by decide) ?_
          refine lv_aload_n hx hb dX6_about_144 rfl (lv_at hl 0 rfl) ?_
          refine fg6 hx hb ht hown hK hw (zs_m hz) rfl 12 wf6_38 (by decide) (nh_vr rfl (zr12 hz)) dX6_about_145 ?_
          refine lv_iload_n hx hb dX6_about_148 rfl (lv_at hl 1 rfl) ?_
          refine ai_ld hx hb hK hw (zs12 hz) rfl hinv dX6_about_149 ?_
          refine nh_iret hx hb hr rfl hlocks hw (Nat.zero_le _) (Nat.zero_le _) dX6_about_150 ?_
          simp only [zl_about, if_neg c76_0, if_neg c76_1, if_neg c76_2, if_neg c76_3, if_pos c76_4]
          exact im_fin rfl rfl
        · refine lv_tableOut (tgt := 151) hx hb dX6_about_76 (by have h0 := lv_neT c76_0 (show ((0 : Int32)).toInt = 0 from rfl); have h1 := lv_neT c76_1 (show ((1 : Int32)).toInt = 1 from rfl); have h2 := lv_neT c76_2 (show ((2 : Int32)).toInt = 2 from rfl); have h3 := lv_neT c76_3 (show ((3 : Int32)).toInt = 3 from rfl); have h4 := lv_neT c76_4 (show ((4 : Int32)).toInt = 4 from rfl); omega) (by decide) ?_
          refine lv_bipush (v := (-2)) hx hb dX6_about_151 (by decide) ?_
          refine nh_iret hx hb hr rfl hlocks hw (Nat.zero_le _) (Nat.zero_le _) dX6_about_153 ?_
          simp only [zl_about, if_neg c76_0, if_neg c76_1, if_neg c76_2, if_neg c76_3, if_neg c76_4]
          exact im_fin rfl rfl
      · exact absurd (by rw [hnp]; exact nI_le (by omega) (by omega)) c30
    | succ r ih =>
      intro j x3 x4 ls H locs hw hj hinv hl
      have hj9 : vp_in (nI j) 9000 := vp_in_nI (by omega) (by decide)
      refine lv_iload hx hb dX6_about_24 (lv_at hl 5 rfl) ?_
      refine lv_aload_n hx hb dX6_about_26 rfl (lv_at hl 0 rfl) ?_
      refine fg6 (v := .int (J zM 18)) hx hb ht hown hK hw (zs_m hz) rfl 18 wf6_95 (by decide) (nh_vi rfl) dX6_about_27 ?_
      refine lv_icmp_ge (tgt := 75) hx hb dX6_about_30 (by decide) (fun c30 => ?_) (fun c30 => ?_)
      · exact absurd c30 (by rw [hnp]; exact nI_ge (by omega) (by omega))
      · refine lv_aload_n hx hb dX6_about_33 rfl (lv_at hl 0 rfl) ?_
        refine fg6 hx hb ht hown hK hw (zs_m hz) rfl 20 wf6_53 (by decide) (nh_vr rfl (zr20 hz)) dX6_about_34 ?_
        refine lv_iload hx hb dX6_about_37 (lv_at hl 5 rfl) ?_
        refine ai_ld hx hb hK hw (zs20 hz) rfl hj9 dX6_about_39 ?_
        refine lv_iload_n hx hb dX6_about_40 rfl (lv_at hl 1 rfl) ?_
        refine lv_icmp_ne (tgt := 69) hx hb dX6_about_41 (by decide) (fun c41 => ?_) (fun c41 => ?_)
        · refine lv_iinc (v := (nI j) + 1) (lv' := [(5, .int ((nI j) + 1)), (0, .ref (g zM)), (1, .int a), (2, .int b), (3, .int x3), (4, .int x4)]) hx hb dX6_about_69 hl (k := 5) rfl rfl (by decide) rfl (fun ls hl => ?_)
          refine lv_goto (tgt := 24) hx hb dX6_about_72 (by decide) ?_
          have h9 : lv_has ls 6 [(0, .ref (g zM)), (1, .int a), (2, .int b), (3, .int x3), (4, .int x4), (5, .int ((nI j) + 1))] := lv_sub hl [1, 2, 3, 4, 5, 0] rfl
          rw [nI_1] at h9
          simp only [zl_about, if_neg c41]
          exact ih (j + 1) x3 x4 ls _ _ hw (by omega) hinv h9
        · refine lv_iload_n hx hb dX6_about_44 rfl (lv_at hl 3 rfl) ?_
          refine lv_if_ge (tgt := 58) hx hb dX6_about_45 (by decide) (fun c45 => ?_) (fun c45 => ?_)
          · refine lv_iload_n hx hb dX6_about_58 rfl (lv_at hl 3 rfl) ?_
            refine lv_istore_n (lv' := [(3, .int x3), (0, .ref (g zM)), (1, .int a), (2, .int b), (4, .int x4), (5, .int (nI j))]) hx hb dX6_about_59 rfl hl (by decide) rfl (fun ls hl => ?_)
            refine lv_aload_n hx hb dX6_about_60 rfl (lv_at hl 1 rfl) ?_
            refine fg6 hx hb ht hown hK hw (zs_m hz) rfl 19 wf6_50 (by decide) (nh_vr rfl (zr19 hz)) dX6_about_61 ?_
            refine lv_iload hx hb dX6_about_64 (lv_at hl 5 rfl) ?_
            refine ai_ld hx hb hK hw (zs19 hz) rfl hj9 dX6_about_66 ?_
            refine lv_istore (lv' := [(4, .int (J (zA 19) (nI j).toNatClampNeg)), (3, .int x3), (0, .ref (g zM)), (1, .int a), (2, .int b), (5, .int (nI j))]) hx hb dX6_about_67 hl (by decide) rfl (fun ls hl => ?_)
            refine lv_iinc (v := (nI j) + 1) (lv' := [(5, .int ((nI j) + 1)), (4, .int (J (zA 19) (nI j).toNatClampNeg)), (3, .int x3), (0, .ref (g zM)), (1, .int a), (2, .int b)]) hx hb dX6_about_69 hl (k := 5) rfl rfl (by decide) rfl (fun ls hl => ?_)
            refine lv_goto (tgt := 24) hx hb dX6_about_72 (by decide) ?_
            have h9 : lv_has ls 6 [(0, .ref (g zM)), (1, .int a), (2, .int b), (3, .int x3), (4, .int (J (zA 19) (nI j).toNatClampNeg)), (5, .int ((nI j) + 1))] := lv_sub hl [3, 4, 5, 2, 1, 0] rfl
            rw [nI_1] at h9
            simp only [zl_about, if_pos c41, if_pos c45]
            exact ih (j + 1) x3 (J (zA 19) (nI j).toNatClampNeg) ls _ _ hw (by omega) hinv h9
          · refine lv_aload_n hx hb dX6_about_48 rfl (lv_at hl 0 rfl) ?_
            refine fg6 hx hb ht hown hK hw (zs_m hz) rfl 19 wf6_50 (by decide) (nh_vr rfl (zr19 hz)) dX6_about_49 ?_
            refine lv_iload hx hb dX6_about_52 (lv_at hl 5 rfl) ?_
            refine ai_ld hx hb hK hw (zs19 hz) rfl hj9 dX6_about_54 ?_
            refine lv_goto (tgt := 59) hx hb dX6_about_55 (by decide) ?_
            refine lv_istore_n (lv' := [(3, .int (J (zA 19) (nI j).toNatClampNeg)), (0, .ref (g zM)), (1, .int a), (2, .int b), (4, .int x4), (5, .int (nI j))]) hx hb dX6_about_59 rfl hl (by decide) rfl (fun ls hl => ?_)
            refine lv_aload_n hx hb dX6_about_60 rfl (lv_at hl 1 rfl) ?_
            refine fg6 hx hb ht hown hK hw (zs_m hz) rfl 19 wf6_50 (by decide) (nh_vr rfl (zr19 hz)) dX6_about_61 ?_
            refine lv_iload hx hb dX6_about_64 (lv_at hl 5 rfl) ?_
            refine ai_ld hx hb hK hw (zs19 hz) rfl hj9 dX6_about_66 ?_
            refine lv_istore (lv' := [(4, .int (J (zA 19) (nI j).toNatClampNeg)), (3, .int (J (zA 19) (nI j).toNatClampNeg)), (0, .ref (g zM)), (1, .int a), (2, .int b), (5, .int (nI j))]) hx hb dX6_about_67 hl (by decide) rfl (fun ls hl => ?_)
            refine lv_iinc (v := (nI j) + 1) (lv' := [(5, .int ((nI j) + 1)), (4, .int (J (zA 19) (nI j).toNatClampNeg)), (3, .int (J (zA 19) (nI j).toNatClampNeg)), (0, .ref (g zM)), (1, .int a), (2, .int b)]) hx hb dX6_about_69 hl (k := 5) rfl rfl (by decide) rfl (fun ls hl => ?_)
            refine lv_goto (tgt := 24) hx hb dX6_about_72 (by decide) ?_
            have h9 : lv_has ls 6 [(0, .ref (g zM)), (1, .int a), (2, .int b), (3, .int (J (zA 19) (nI j).toNatClampNeg)), (4, .int (J (zA 19) (nI j).toNatClampNeg)), (5, .int ((nI j) + 1))] := lv_sub hl [3, 4, 5, 2, 1, 0] rfl
            rw [nI_1] at h9
            simp only [zl_about, if_pos c41, if_neg c45]
            exact ih (j + 1) (J (zA 19) (nI j).toNatClampNeg) (J (zA 19) (nI j).toNatClampNeg) ls _ _ hw (by omega) hinv h9
  refine lv_iload_n hx hb dX6_about_0 rfl (lv_at hl 1 rfl) ?_
  refine lv_iconst (v := 0) hx hb dX6_about_1 (by decide) ?_
  refine lv_aload_n hx hb dX6_about_2 rfl (lv_at hl 0 rfl) ?_
  refine fg6 (v := .int (J zM 6)) hx hb ht hown hK hw (zs_m hz) rfl 6 wf6_89 (by decide) (nh_vi rfl) dX6_about_3 ?_
  refine lv_iconst (v := 1) hx hb dX6_about_6 (by decide) ?_
  refine lv_isub hx hb dX6_about_7 ?_
  refine kcX6_in (As := [.int a, .int 0, .int ((J zM 6) - 1)]) (rest := []) wm6_78 (zc_in l D cA a 0 ((J zM 6) - 1)) hx hb hml ht hown hK hw rfl hl.1 rfl (by simp [Value.category]) ⟨by decide, by decide⟩ ⟨by simp, by simp⟩ dX6_about_8 (fun v S1 g1 I1 R1 H locs hp hw => ?_)
  obtain ⟨rfl, h1, h2, h3, h4⟩ := hp
  rw [h1, h2, h3, h4] at hw
  clear h1 h2 h3 h4
  show W _ _ _ _ _ _ _ _ _ _ _ _ _ _ _ (F0 m 11 ls [.int (zf_in J a 0 ((J zM 6) - 1))])
  refine lv_if_ne (tgt := 16) hx hb dX6_about_11 (by decide) (fun c11 => ?_) (fun c11 => ?_)
  · refine lv_iconst (v := (-1)) hx hb dX6_about_16 (by decide) ?_
    refine lv_istore_n (lv' := [(3, .int (-1)), (0, .ref (g zM)), (1, .int a), (2, .int b)]) hx hb dX6_about_17 rfl hl (by decide) rfl (fun ls hl => ?_)
    refine lv_iconst (v := (-1)) hx hb dX6_about_18 (by decide) ?_
    refine lv_istore (lv' := [(4, .int (-1)), (3, .int (-1)), (0, .ref (g zM)), (1, .int a), (2, .int b)]) hx hb dX6_about_19 hl (by decide) rfl (fun ls hl => ?_)
    refine lv_iconst (v := 0) hx hb dX6_about_21 (by decide) ?_
    refine lv_istore (lv' := [(5, .int 0), (4, .int (-1)), (3, .int (-1)), (0, .ref (g zM)), (1, .int a), (2, .int b)]) hx hb dX6_about_22 hl (by decide) rfl (fun ls hl => ?_)
    simp only [zf_about, if_neg c11]
    exact loop np 0 (-1) (-1) ls _ _ hw (by omega) (zi_in c11 hni hi2) (by rw [nI_0]; exact lv_sub hl [3, 4, 5, 2, 1, 0] rfl)
  · refine lv_iconst (v := (-1)) hx hb dX6_about_14 (by decide) ?_
    refine nh_iret hx hb hr rfl hlocks hw (Nat.zero_le _) (Nat.zero_le _) dX6_about_15 ?_
    simp only [zf_about, if_pos c11]
    exact im_fin rfl rfl
def zl_markOn (J : (nh_N → Nat → Int32))  (a : Int32) (b : Int32) (d : Int32) : Nat → Nat → Int32 → Int32
  | 0, j, x4 => x4
  | r + 1, j, x4 => (if (J (zA 14) (nI j).toNatClampNeg) = a then (if (J (zA 15) (nI j).toNatClampNeg) = b then (if x4 < 0 then zl_markOn J  a b d r (j + 1) (nI j) else (if d = 0 then zl_markOn J  a b d r (j + 1) (nI j) else zl_markOn J  a b d r (j + 1) x4)) else zl_markOn J  a b d r (j + 1) x4) else zl_markOn J  a b d r (j + 1) x4)
def zf_markOn (J : (nh_N → Nat → Int32))  (nm : Nat) (a : Int32) (b : Int32) (d : Int32) : Int32 := zl_markOn J  a b d nm 0 (-1)
set_option maxHeartbeats 4000000 in
set_option maxRecDepth 100000 in
theorem zc_markOn (l : Launch) (D : va_G) (cA : Nat → ClassId) {S : nh_N → Option nh_C} {g : nh_N → Nat} {J : (nh_N → Nat → Int32)} {R : nh_N → Nat → Option nh_N} (hz : zSh S R) (a : Int32) (b : Int32) (d : Int32) (nm : Nat) (hnm : J zM 13 = nI nm) (hm3 : nm ≤ 300) : im_M l D cA yX6_markOn vX6_markOn 0 0 0 0 [.ref (g zM), .int a, .int b, .int d] S g J R (im_eq (some (.int (zf_markOn J  nm a b d))) S g J R) := by
  refine nh_of (cc := cX6_markOn) (maxL := 6) (ret := (some .int)) (by decide) rfl (Nat.le_of_ble_eq_true rfl) ?_
  intro p e s m below meth c A ls hx hb hr hml hts hown hlocks hin hK hw hl
  have ht : ∀ w ∈ im_ws, w.before _ s = true := fun w h => hts w (List.mem_cons_of_mem _ h)
  have hl : lv_has ls 6 [(0, .ref (g zM)), (1, .int a), (2, .int b), (3, .int d)] := hl
  have loop : ∀ (r j : Nat) (x4 : Int32) (ls : Array Slot) (H : Heap) (locs : List Loc), nh_S D im_cl im_sk cA A s.heap S g J R H locs → j + r = nm → lv_has ls 6 [(0, .ref (g zM)), (1, .int a), (2, .int b), (3, .int d), (4, .int x4), (5, .int (nI j))] → W p l e { frames := 0, cells := 0, slots := 0, locals := 0 } s m ([.ref (g zM), .int a, .int b, .int d] : List Value).toArray below meth c H locs 0 0 (MQ below (nh_Q D im_cl im_sk cA A (im_eq (some (.int (zl_markOn J  a b d r j x4))) S g J R)) ([.ref (g zM), .int a, .int b, .int d] : List Value).toArray s 0 0 A) (F0 m 6 ls []) := by
    intro r
    induction r with
    | zero =>
      intro j x4 ls H locs hw hj hl
      refine lv_iload hx hb dX6_markOn_6 (lv_at hl 5 rfl) ?_
      refine lv_aload_n hx hb dX6_markOn_8 rfl (lv_at hl 0 rfl) ?_
      refine fg6 (v := .int (J zM 13)) hx hb ht hown hK hw (zs_m hz) rfl 13 wf6_92 (by decide) (nh_vi rfl) dX6_markOn_9 ?_
      refine lv_icmp_ge (tgt := 56) hx hb dX6_markOn_12 (by decide) (fun c12 => ?_) (fun c12 => ?_)
      · refine lv_iload hx hb dX6_markOn_56 (lv_at hl 4 rfl) ?_
        refine nh_iret hx hb hr rfl hlocks hw (Nat.zero_le _) (Nat.zero_le _) dX6_markOn_58 ?_
        exact im_fin rfl rfl
      · exact absurd (by rw [hnm]; exact nI_le (by omega) (by omega)) c12
    | succ r ih =>
      intro j x4 ls H locs hw hj hl
      have hj9 : vp_in (nI j) 300 := vp_in_nI (by omega) (by decide)
      refine lv_iload hx hb dX6_markOn_6 (lv_at hl 5 rfl) ?_
      refine lv_aload_n hx hb dX6_markOn_8 rfl (lv_at hl 0 rfl) ?_
      refine fg6 (v := .int (J zM 13)) hx hb ht hown hK hw (zs_m hz) rfl 13 wf6_92 (by decide) (nh_vi rfl) dX6_markOn_9 ?_
      refine lv_icmp_ge (tgt := 56) hx hb dX6_markOn_12 (by decide) (fun c12 => ?_) (fun c12 => ?_)
      · exact absurd c12 (by rw [hnm]; exact nI_ge (by omega) (by omega))
      · refine lv_aload_n hx hb dX6_markOn_15 rfl (lv_at hl 0 rfl) ?_
        refine fg6 hx hb ht hown hK hw (zs_m hz) rfl 14 wf6_41 (by decide) (nh_vr rfl (zr14 hz)) dX6_markOn_16 ?_
        refine lv_iload hx hb dX6_markOn_19 (lv_at hl 5 rfl) ?_
        refine ai_ld hx hb hK hw (zs14 hz) rfl hj9 dX6_markOn_21 ?_
        refine lv_iload_n hx hb dX6_markOn_22 rfl (lv_at hl 1 rfl) ?_
        refine lv_icmp_ne (tgt := 50) hx hb dX6_markOn_23 (by decide) (fun c23 => ?_) (fun c23 => ?_)
        · refine lv_iinc (v := (nI j) + 1) (lv' := [(5, .int ((nI j) + 1)), (0, .ref (g zM)), (1, .int a), (2, .int b), (3, .int d), (4, .int x4)]) hx hb dX6_markOn_50 hl (k := 5) rfl rfl (by decide) rfl (fun ls hl => ?_)
          refine lv_goto (tgt := 6) hx hb dX6_markOn_53 (by decide) ?_
          have h9 : lv_has ls 6 [(0, .ref (g zM)), (1, .int a), (2, .int b), (3, .int d), (4, .int x4), (5, .int ((nI j) + 1))] := lv_sub hl [1, 2, 3, 4, 5, 0] rfl
          rw [nI_1] at h9
          simp only [zl_markOn, if_neg c23]
          exact ih (j + 1) x4 ls _ _ hw (by omega) h9
        · refine lv_aload_n hx hb dX6_markOn_26 rfl (lv_at hl 0 rfl) ?_
          refine fg6 hx hb ht hown hK hw (zs_m hz) rfl 15 wf6_44 (by decide) (nh_vr rfl (zr15 hz)) dX6_markOn_27 ?_
          refine lv_iload hx hb dX6_markOn_30 (lv_at hl 5 rfl) ?_
          refine ai_ld hx hb hK hw (zs15 hz) rfl hj9 dX6_markOn_32 ?_
          refine lv_iload_n hx hb dX6_markOn_33 rfl (lv_at hl 2 rfl) ?_
          refine lv_icmp_ne (tgt := 50) hx hb dX6_markOn_34 (by decide) (fun c34 => ?_) (fun c34 => ?_)
          · refine lv_iinc (v := (nI j) + 1) (lv' := [(5, .int ((nI j) + 1)), (0, .ref (g zM)), (1, .int a), (2, .int b), (3, .int d), (4, .int x4)]) hx hb dX6_markOn_50 hl (k := 5) rfl rfl (by decide) rfl (fun ls hl => ?_)
            refine lv_goto (tgt := 6) hx hb dX6_markOn_53 (by decide) ?_
            have h9 : lv_has ls 6 [(0, .ref (g zM)), (1, .int a), (2, .int b), (3, .int d), (4, .int x4), (5, .int ((nI j) + 1))] := lv_sub hl [1, 2, 3, 4, 5, 0] rfl
            rw [nI_1] at h9
            simp only [zl_markOn, if_pos c23, if_neg c34]
            exact ih (j + 1) x4 ls _ _ hw (by omega) h9
          · refine lv_iload hx hb dX6_markOn_37 (lv_at hl 4 rfl) ?_
            refine lv_if_lt (tgt := 46) hx hb dX6_markOn_39 (by decide) (fun c39 => ?_) (fun c39 => ?_)
            · refine lv_iload hx hb dX6_markOn_46 (lv_at hl 5 rfl) ?_
              refine lv_istore (lv' := [(4, .int (nI j)), (0, .ref (g zM)), (1, .int a), (2, .int b), (3, .int d), (5, .int (nI j))]) hx hb dX6_markOn_48 hl (by decide) rfl (fun ls hl => ?_)
              refine lv_iinc (v := (nI j) + 1) (lv' := [(5, .int ((nI j) + 1)), (4, .int (nI j)), (0, .ref (g zM)), (1, .int a), (2, .int b), (3, .int d)]) hx hb dX6_markOn_50 hl (k := 5) rfl rfl (by decide) rfl (fun ls hl => ?_)
              refine lv_goto (tgt := 6) hx hb dX6_markOn_53 (by decide) ?_
              have h9 : lv_has ls 6 [(0, .ref (g zM)), (1, .int a), (2, .int b), (3, .int d), (4, .int (nI j)), (5, .int ((nI j) + 1))] := lv_sub hl [2, 3, 4, 5, 1, 0] rfl
              rw [nI_1] at h9
              simp only [zl_markOn, if_pos c23, if_pos c34, if_pos c39]
              exact ih (j + 1) (nI j) ls _ _ hw (by omega) h9
            · refine lv_iload_n hx hb dX6_markOn_42 rfl (lv_at hl 3 rfl) ?_
              refine lv_if_ne (tgt := 50) hx hb dX6_markOn_43 (by decide) (fun c43 => ?_) (fun c43 => ?_)
              · refine lv_iinc (v := (nI j) + 1) (lv' := [(5, .int ((nI j) + 1)), (0, .ref (g zM)), (1, .int a), (2, .int b), (3, .int d), (4, .int x4)]) hx hb dX6_markOn_50 hl (k := 5) rfl rfl (by decide) rfl (fun ls hl => ?_)
                refine lv_goto (tgt := 6) hx hb dX6_markOn_53 (by decide) ?_
                have h9 : lv_has ls 6 [(0, .ref (g zM)), (1, .int a), (2, .int b), (3, .int d), (4, .int x4), (5, .int ((nI j) + 1))] := lv_sub hl [1, 2, 3, 4, 5, 0] rfl
                rw [nI_1] at h9
                simp only [zl_markOn, if_pos c23, if_pos c34, if_neg c39, if_neg c43]
                exact ih (j + 1) x4 ls _ _ hw (by omega) h9
              · refine lv_iload hx hb dX6_markOn_46 (lv_at hl 5 rfl) ?_
                refine lv_istore (lv' := [(4, .int (nI j)), (0, .ref (g zM)), (1, .int a), (2, .int b), (3, .int d), (5, .int (nI j))]) hx hb dX6_markOn_48 hl (by decide) rfl (fun ls hl => ?_)
                refine lv_iinc (v := (nI j) + 1) (lv' := [(5, .int ((nI j) + 1)), (4, .int (nI j)), (0, .ref (g zM)), (1, .int a), (2, .int b), (3, .int d)]) hx hb dX6_markOn_50 hl (k := 5) rfl rfl (by decide) rfl (fun ls hl => ?_)
                refine lv_goto (tgt := 6) hx hb dX6_markOn_53 (by decide) ?_
                have h9 : lv_has ls 6 [(0, .ref (g zM)), (1, .int a), (2, .int b), (3, .int d), (4, .int (nI j)), (5, .int ((nI j) + 1))] := lv_sub hl [2, 3, 4, 5, 1, 0] rfl
                rw [nI_1] at h9
                simp only [zl_markOn, if_pos c23, if_pos c34, if_neg c39, if_pos c43]
                exact ih (j + 1) (nI j) ls _ _ hw (by omega) h9
  refine lv_iconst (v := (-1)) hx hb dX6_markOn_0 (by decide) ?_
  refine lv_istore (lv' := [(4, .int (-1)), (0, .ref (g zM)), (1, .int a), (2, .int b), (3, .int d)]) hx hb dX6_markOn_1 hl (by decide) rfl (fun ls hl => ?_)
  refine lv_iconst (v := 0) hx hb dX6_markOn_3 (by decide) ?_
  refine lv_istore (lv' := [(5, .int 0), (4, .int (-1)), (0, .ref (g zM)), (1, .int a), (2, .int b), (3, .int d)]) hx hb dX6_markOn_4 hl (by decide) rfl (fun ls hl => ?_)
  exact loop nm 0 (-1) ls _ _ hw (by omega) (by rw [nI_0]; exact lv_sub hl [2, 3, 4, 5, 1, 0] rfl)
theorem zb_markOn (J : nh_N → Nat → Int32) (a b d : Int32) : ∀ (r j : Nat) (x : Int32) (N : Nat), j + r ≤ N → (x = -1 ∨ ∃ q, q < N ∧ x = nI q) → zl_markOn J a b d r j x = -1 ∨ ∃ q, q < N ∧ zl_markOn J a b d r j x = nI q := by
  intro r
  induction r with
  | zero => intro j x N h hx; exact hx
  | succ r ih =>
    intro j x N h hx
    unfold zl_markOn
    split
    · split
      · split
        · exact ih _ _ N (by omega) (Or.inr ⟨j, by omega, rfl⟩)
        · split
          · exact ih _ _ N (by omega) (Or.inr ⟨j, by omega, rfl⟩)
          · exact ih _ _ N (by omega) hx
      · exact ih _ _ N (by omega) hx
    · exact ih _ _ N (by omega) hx
theorem zx_markOn {J : nh_N → Nat → Int32} {nm : Nat} {a b d : Int32} (hN2 : nm < 2 ^ 31) (h : ¬ zf_markOn J nm a b d < 0) : ∃ q, q < nm ∧ zf_markOn J nm a b d = nI q := by
  rcases zb_markOn J a b d nm 0 (-1) nm (by omega) (Or.inl rfl) with h1 | h1
  · exact absurd (by show zl_markOn J a b d nm 0 (-1) < 0; rw [h1]; decide) h
  · exact h1
def zl_lastBefore (J : (nh_N → Nat → Int32)) (nm : Nat) (a : Int32) (b : Int32) : Nat → Int32
  | 0 => 0
  | r + 1 => (if (zf_markOn J nm a (nI r) 0) < 0 then zl_lastBefore J nm a b r  else (J (zA 16) (zf_markOn J nm a (nI r) 0).toNatClampNeg))
def zf_lastBefore (J : (nh_N → Nat → Int32)) (nm : Nat) (pg : Nat) (a : Int32) (b : Int32) : Int32 := zl_lastBefore J nm a b pg 
set_option maxHeartbeats 4000000 in
set_option maxRecDepth 100000 in
theorem zc_lastBefore (l : Launch) (D : va_G) (cA : Nat → ClassId) {S : nh_N → Option nh_C} {g : nh_N → Nat} {J : (nh_N → Nat → Int32)} {R : nh_N → Nat → Option nh_N} (hz : zSh S R) (a : Int32) (b : Int32) (pg : Nat) (hpg : b = nI pg) (hp4 : pg ≤ 40) (nm : Nat) (hnm : J zM 13 = nI nm) (hm3 : nm ≤ 300) : im_M l D cA yX6_lastBefore vX6_lastBefore 1 25 0 0 [.ref (g zM), .int a, .int b] S g J R (im_eq (some (.int (zf_lastBefore J nm pg a b))) S g J R) := by
  refine nh_of (cc := cX6_lastBefore) (maxL := 5) (ret := (some .int)) (by decide) rfl (Nat.le_of_ble_eq_true rfl) ?_
  intro p e s m below meth c A ls hx hb hr hml hts hown hlocks hin hK hw hl
  have ht : ∀ w ∈ im_ws, w.before _ s = true := fun w h => hts w (List.mem_cons_of_mem _ h)
  have hl : lv_has ls 5 [(0, .ref (g zM)), (1, .int a), (2, .int b)] := hl
  have loop : ∀ (r : Nat)  (ls : Array Slot) (H : Heap) (locs : List Loc), nh_S D im_cl im_sk cA A s.heap S g J R H locs → r ≤ pg → lv_has ls 5 [(0, .ref (g zM)), (1, .int a), (2, .int b), (3, .int (nI r - 1))] → W p l e { frames := 1, cells := 0, slots := 0, locals := 25 } s m ([.ref (g zM), .int a, .int b] : List Value).toArray below meth c H locs 0 0 (MQ below (nh_Q D im_cl im_sk cA A (im_eq (some (.int (zl_lastBefore J nm a b r ))) S g J R)) ([.ref (g zM), .int a, .int b] : List Value).toArray s 0 0 A) (F0 m 4 ls []) := by
    intro r
    induction r with
    | zero =>
      intro  ls H locs hw hj hl
      refine lv_iload_n hx hb dX6_lastBefore_4 rfl (lv_at hl 3 rfl) ?_
      refine lv_if_lt (tgt := 36) hx hb dX6_lastBefore_5 (by decide) (fun c5 => ?_) (fun c5 => ?_)
      · refine lv_iconst (v := 0) hx hb dX6_lastBefore_36 (by decide) ?_
        refine nh_iret hx hb hr rfl hlocks hw (Nat.zero_le _) (Nat.zero_le _) dX6_lastBefore_37 ?_
        exact im_fin rfl rfl
      · exact absurd (by decide) c5
    | succ r ih =>
      intro  ls H locs hw hj hl
      rw [nI_pred] at hl
      refine lv_iload_n hx hb dX6_lastBefore_4 rfl (lv_at hl 3 rfl) ?_
      refine lv_if_lt (tgt := 36) hx hb dX6_lastBefore_5 (by decide) (fun c5 => ?_) (fun c5 => ?_)
      · exact absurd c5 (nI_pos (by omega))
      · refine lv_aload_n hx hb dX6_lastBefore_8 rfl (lv_at hl 0 rfl) ?_
        refine lv_iload_n hx hb dX6_lastBefore_9 rfl (lv_at hl 1 rfl) ?_
        refine lv_iload_n hx hb dX6_lastBefore_10 rfl (lv_at hl 3 rfl) ?_
        refine lv_iconst (v := 0) hx hb dX6_lastBefore_11 (by decide) ?_
        refine kcX6_markOn (As := [.int a, .int (nI r), .int 0]) (rest := []) wm6_134 (zc_markOn l D cA hz a (nI r) 0 nm hnm hm3) hx hb hml ht hown hK hw (zs_m hz) rfl rfl hl.1 rfl (by simp [Value.category]) ⟨by decide, by decide⟩ ⟨by simp, by simp⟩ dX6_lastBefore_12 (fun v S1 g1 I1 R1 H locs hp hw => ?_)
        obtain ⟨rfl, h1, h2, h3, h4⟩ := hp
        rw [h1, h2, h3, h4] at hw
        clear h1 h2 h3 h4
        show W _ _ _ _ _ _ _ _ _ _ _ _ _ _ _ (F0 m 15 ls [.int (zf_markOn J nm a (nI r) 0)])
        refine lv_istore (lv' := [(4, .int (zf_markOn J nm a (nI r) 0)), (0, .ref (g zM)), (1, .int a), (2, .int b), (3, .int (nI r))]) hx hb dX6_lastBefore_15 hl (by decide) rfl (fun ls hl => ?_)
        refine lv_iload hx hb dX6_lastBefore_17 (lv_at hl 0 rfl) ?_
        refine lv_if_lt (tgt := 30) hx hb dX6_lastBefore_19 (by decide) (fun c19 => ?_) (fun c19 => ?_)
        · refine lv_iinc (v := (nI r) + (-1)) (lv' := [(3, .int ((nI r) + (-1))), (4, .int (zf_markOn J nm a (nI r) 0)), (0, .ref (g zM)), (1, .int a), (2, .int b)]) hx hb dX6_lastBefore_30 hl (k := 4) rfl rfl (by decide) rfl (fun ls hl => ?_)
          refine lv_goto (tgt := 4) hx hb dX6_lastBefore_33 (by decide) ?_
          have h9 : lv_has ls 5 [(0, .ref (g zM)), (1, .int a), (2, .int b), (3, .int ((nI r) + (-1)))] := lv_sub hl [2, 3, 4, 0] rfl
          rw [show nI r + (-1) = nI r - 1 from (Int32.sub_eq_add_neg _ _).symm] at h9
          simp only [zl_lastBefore, if_pos c19]
          exact ih  ls _ _ hw (by omega) h9
        · obtain ⟨q9, hq9, eq9⟩ := zx_markOn (by omega) c19
          refine lv_aload_n hx hb dX6_lastBefore_22 rfl (lv_at hl 1 rfl) ?_
          refine fg6 hx hb ht hown hK hw (zs_m hz) rfl 16 wf6_47 (by decide) (nh_vr rfl (zr16 hz)) dX6_lastBefore_23 ?_
          refine lv_iload hx hb dX6_lastBefore_26 (lv_at hl 0 rfl) ?_
          refine ai_ld hx hb hK hw (zs16 hz) rfl (ix_of q9 eq9 (by omega) (by decide)) dX6_lastBefore_28 ?_
          refine nh_iret hx hb hr rfl hlocks hw (Nat.zero_le _) (Nat.zero_le _) dX6_lastBefore_29 ?_
          simp only [zl_lastBefore, if_neg c19]
          exact im_fin rfl rfl
  refine lv_iload_n hx hb dX6_lastBefore_0 rfl (lv_at hl 2 rfl) ?_
  refine lv_iconst (v := 1) hx hb dX6_lastBefore_1 (by decide) ?_
  refine lv_isub hx hb dX6_lastBefore_2 ?_
  refine lv_istore_n (lv' := [(3, .int (b - 1)), (0, .ref (g zM)), (1, .int a), (2, .int b)]) hx hb dX6_lastBefore_3 rfl hl (by decide) rfl (fun ls hl => ?_)
  exact loop pg  ls _ _ hw (by omega) (by rw [← hpg]; exact lv_sub hl [1, 2, 3, 0] rfl)
end
section
def zl_heldAt (J : (nh_N → Nat → Int32))  (a : Int32) : Nat → Nat → Int32 → Int32
  | 0, j, x2 => (-1)
  | r + 1, j, x2 => (if a < 0 then (-1) else (if (J (zA 11) (J (zA 24) (nI j).toNatClampNeg).toNatClampNeg) = 0 then (if (J (zA 8) (J (zA 24) (nI j).toNatClampNeg).toNatClampNeg) ≤ 0 then zl_heldAt J  a r (j + 1) (x2 - 0) else (if x2 = 0 then (J (zA 24) (nI j).toNatClampNeg) else zl_heldAt J  a r (j + 1) (x2 - 1))) else zl_heldAt J  a r (j + 1) (x2 - 0)))
def zf_heldAt (J : (nh_N → Nat → Int32))  (nb : Nat) (a : Int32) : Int32 := zl_heldAt J  a nb 0 a
set_option maxHeartbeats 4000000 in
set_option maxRecDepth 100000 in
theorem zc_heldAt (l : Launch) (D : va_G) (cA : Nat → ClassId) {S : nh_N → Option nh_C} {g : nh_N → Nat} {J : (nh_N → Nat → Int32)} {R : nh_N → Nat → Option nh_N} (hz : zSh S R) (a : Int32) (nb : Nat) (hnb : J zM 23 = nI nb) (hb2 : nb ≤ 200) (hor : ∀ q, q < nb → ∃ i, i < 200 ∧ J (zA 24) q = nI i) : im_M l D cA yX6_heldAt vX6_heldAt 0 0 0 0 [.ref (g zM), .int a] S g J R (im_eq (some (.int (zf_heldAt J  nb a))) S g J R) := by
  refine nh_of (cc := cX6_heldAt) (maxL := 5) (ret := (some .int)) (by decide) rfl (Nat.le_of_ble_eq_true rfl) ?_
  intro p e s m below meth c A ls hx hb hr hml hts hown hlocks hin hK hw hl
  have ht : ∀ w ∈ im_ws, w.before _ s = true := fun w h => hts w (List.mem_cons_of_mem _ h)
  have hl : lv_has ls 5 [(0, .ref (g zM)), (1, .int a)] := hl
  have loop : ∀ (r j : Nat) (x2 : Int32) (ls : Array Slot) (H : Heap) (locs : List Loc), nh_S D im_cl im_sk cA A s.heap S g J R H locs → j + r = nb → lv_has ls 5 [(0, .ref (g zM)), (1, .int a), (2, .int x2), (3, .int (nI j))] → W p l e { frames := 0, cells := 0, slots := 0, locals := 0 } s m ([.ref (g zM), .int a] : List Value).toArray below meth c H locs 0 0 (MQ below (nh_Q D im_cl im_sk cA A (im_eq (some (.int (zl_heldAt J  a r j x2))) S g J R)) ([.ref (g zM), .int a] : List Value).toArray s 0 0 A) (F0 m 4 ls []) := by
    intro r
    induction r with
    | zero =>
      intro j x2 ls H locs hw hj hl
      refine lv_iload_n hx hb dX6_heldAt_4 rfl (lv_at hl 3 rfl) ?_
      refine lv_aload_n hx hb dX6_heldAt_5 rfl (lv_at hl 0 rfl) ?_
      refine fg6 (v := .int (J zM 23)) hx hb ht hown hK hw (zs_m hz) rfl 23 wf6_109 (by decide) (nh_vi rfl) dX6_heldAt_6 ?_
      refine lv_icmp_ge (tgt := 86) hx hb dX6_heldAt_9 (by decide) (fun c9 => ?_) (fun c9 => ?_)
      · refine lv_iconst (v := (-1)) hx hb dX6_heldAt_86 (by decide) ?_
        refine nh_iret hx hb hr rfl hlocks hw (Nat.zero_le _) (Nat.zero_le _) dX6_heldAt_87 ?_
        exact im_fin rfl rfl
      · exact absurd (by rw [hnb]; exact nI_le (by omega) (by omega)) c9
    | succ r ih =>
      intro j x2 ls H locs hw hj hl
      have hj9 : vp_in (nI j) 200 := vp_in_nI (by omega) (by decide)
      obtain ⟨i9, hi9, ei9⟩ := hor j (by omega)
      have hi8 : vp_in (J (zA 24) (nI j).toNatClampNeg) 200 := ix_of i9 (by rw [nI_clamp (by omega)]; exact ei9) hi9 (by decide)
      refine lv_iload_n hx hb dX6_heldAt_4 rfl (lv_at hl 3 rfl) ?_
      refine lv_aload_n hx hb dX6_heldAt_5 rfl (lv_at hl 0 rfl) ?_
      refine fg6 (v := .int (J zM 23)) hx hb ht hown hK hw (zs_m hz) rfl 23 wf6_109 (by decide) (nh_vi rfl) dX6_heldAt_6 ?_
      refine lv_icmp_ge (tgt := 86) hx hb dX6_heldAt_9 (by decide) (fun c9 => ?_) (fun c9 => ?_)
      · exact absurd c9 (by rw [hnb]; exact nI_ge (by omega) (by omega))
      · refine lv_iload_n hx hb dX6_heldAt_12 rfl (lv_at hl 1 rfl) ?_
        refine lv_if_lt (tgt := 86) hx hb dX6_heldAt_13 (by decide) (fun c13 => ?_) (fun c13 => ?_)
        · refine lv_iconst (v := (-1)) hx hb dX6_heldAt_86 (by decide) ?_
          refine nh_iret hx hb hr rfl hlocks hw (Nat.zero_le _) (Nat.zero_le _) dX6_heldAt_87 ?_
          simp only [zl_heldAt, if_pos c13]
          exact im_fin rfl rfl
        · refine lv_aload_n hx hb dX6_heldAt_16 rfl (lv_at hl 0 rfl) ?_
          refine fg6 hx hb ht hown hK hw (zs_m hz) rfl 11 wf6_35 (by decide) (nh_vr rfl (zr11 hz)) dX6_heldAt_17 ?_
          refine lv_aload_n hx hb dX6_heldAt_20 rfl (lv_at hl 0 rfl) ?_
          refine fg6 hx hb ht hown hK hw (zs_m hz) rfl 24 wf6_62 (by decide) (nh_vr rfl (zr24 hz)) dX6_heldAt_21 ?_
          refine lv_iload_n hx hb dX6_heldAt_24 rfl (lv_at hl 3 rfl) ?_
          refine ai_ld hx hb hK hw (zs24 hz) rfl hj9 dX6_heldAt_25 ?_
          refine az_ld hx hb hK hw (zs11 hz) rfl hi8 dX6_heldAt_26 ?_
          refine lv_if_ne (tgt := 48) hx hb dX6_heldAt_27 (by decide) (fun c27 => ?_) (fun c27 => ?_)
          · refine lv_iconst (v := 0) hx hb dX6_heldAt_48 (by decide) ?_
            refine lv_istore (lv' := [(4, .int 0), (0, .ref (g zM)), (1, .int a), (2, .int x2), (3, .int (nI j))]) hx hb dX6_heldAt_49 hl (by decide) rfl (fun ls hl => ?_)
            refine lv_iload hx hb dX6_heldAt_51 (lv_at hl 0 rfl) ?_
            refine lv_if_eq (tgt := 67) hx hb dX6_heldAt_53 (by decide) (fun c53 => ?_) (fun c53 => absurd c53 (by decide))
            refine lv_iload_n hx hb dX6_heldAt_67 rfl (lv_at hl 3 rfl) ?_
            refine lv_iload hx hb dX6_heldAt_68 (lv_at hl 0 rfl) ?_
            refine lv_if_eq (tgt := 77) hx hb dX6_heldAt_70 (by decide) (fun c70 => ?_) (fun c70 => absurd c70 (by decide))
            refine lv_iconst (v := 0) hx hb dX6_heldAt_77 (by decide) ?_
            refine lv_isub hx hb dX6_heldAt_78 ?_
            refine lv_istore_n (lv' := [(2, .int (x2 - 0)), (4, .int 0), (0, .ref (g zM)), (1, .int a), (3, .int (nI j))]) hx hb dX6_heldAt_79 rfl hl (by decide) rfl (fun ls hl => ?_)
            refine lv_iinc (v := (nI j) + 1) (lv' := [(3, .int ((nI j) + 1)), (2, .int (x2 - 0)), (4, .int 0), (0, .ref (g zM)), (1, .int a)]) hx hb dX6_heldAt_80 hl (k := 4) rfl rfl (by decide) rfl (fun ls hl => ?_)
            refine lv_goto (tgt := 4) hx hb dX6_heldAt_83 (by decide) ?_
            have h9 : lv_has ls 5 [(0, .ref (g zM)), (1, .int a), (2, .int (x2 - 0)), (3, .int ((nI j) + 1))] := lv_sub hl [3, 4, 1, 0] rfl
            rw [nI_1] at h9
            simp only [zl_heldAt, if_neg c13, if_neg c27]
            exact ih (j + 1) (x2 - 0) ls _ _ hw (by omega) h9
          · refine lv_aload_n hx hb dX6_heldAt_30 rfl (lv_at hl 0 rfl) ?_
            refine fg6 hx hb ht hown hK hw (zs_m hz) rfl 8 wf6_26 (by decide) (nh_vr rfl (zr8 hz)) dX6_heldAt_31 ?_
            refine lv_aload_n hx hb dX6_heldAt_34 rfl (lv_at hl 0 rfl) ?_
            refine fg6 hx hb ht hown hK hw (zs_m hz) rfl 24 wf6_62 (by decide) (nh_vr rfl (zr24 hz)) dX6_heldAt_35 ?_
            refine lv_iload_n hx hb dX6_heldAt_38 rfl (lv_at hl 3 rfl) ?_
            refine ai_ld hx hb hK hw (zs24 hz) rfl hj9 dX6_heldAt_39 ?_
            refine ai_ld hx hb hK hw (zs8 hz) rfl hi8 dX6_heldAt_40 ?_
            refine lv_if_le (tgt := 48) hx hb dX6_heldAt_41 (by decide) (fun c41 => ?_) (fun c41 => ?_)
            · refine lv_iconst (v := 0) hx hb dX6_heldAt_48 (by decide) ?_
              refine lv_istore (lv' := [(4, .int 0), (0, .ref (g zM)), (1, .int a), (2, .int x2), (3, .int (nI j))]) hx hb dX6_heldAt_49 hl (by decide) rfl (fun ls hl => ?_)
              refine lv_iload hx hb dX6_heldAt_51 (lv_at hl 0 rfl) ?_
              refine lv_if_eq (tgt := 67) hx hb dX6_heldAt_53 (by decide) (fun c53 => ?_) (fun c53 => absurd c53 (by decide))
              refine lv_iload_n hx hb dX6_heldAt_67 rfl (lv_at hl 3 rfl) ?_
              refine lv_iload hx hb dX6_heldAt_68 (lv_at hl 0 rfl) ?_
              refine lv_if_eq (tgt := 77) hx hb dX6_heldAt_70 (by decide) (fun c70 => ?_) (fun c70 => absurd c70 (by decide))
              refine lv_iconst (v := 0) hx hb dX6_heldAt_77 (by decide) ?_
              refine lv_isub hx hb dX6_heldAt_78 ?_
              refine lv_istore_n (lv' := [(2, .int (x2 - 0)), (4, .int 0), (0, .ref (g zM)), (1, .int a), (3, .int (nI j))]) hx hb dX6_heldAt_79 rfl hl (by decide) rfl (fun ls hl => ?_)
              refine lv_iinc (v := (nI j) + 1) (lv' := [(3, .int ((nI j) + 1)), (2, .int (x2 - 0)), (4, .int 0), (0, .ref (g zM)), (1, .int a)]) hx hb dX6_heldAt_80 hl (k := 4) rfl rfl (by decide) rfl (fun ls hl => ?_)
              refine lv_goto (tgt := 4) hx hb dX6_heldAt_83 (by decide) ?_
              have h9 : lv_has ls 5 [(0, .ref (g zM)), (1, .int a), (2, .int (x2 - 0)), (3, .int ((nI j) + 1))] := lv_sub hl [3, 4, 1, 0] rfl
              rw [nI_1] at h9
              simp only [zl_heldAt, if_neg c13, if_pos c27, if_pos c41]
              exact ih (j + 1) (x2 - 0) ls _ _ hw (by omega) h9
            · refine lv_iconst (v := 1) hx hb dX6_heldAt_44 (by decide) ?_
              refine lv_goto (tgt := 49) hx hb dX6_heldAt_45 (by decide) ?_
              refine lv_istore (lv' := [(4, .int 1), (0, .ref (g zM)), (1, .int a), (2, .int x2), (3, .int (nI j))]) hx hb dX6_heldAt_49 hl (by decide) rfl (fun ls hl => ?_)
              refine lv_iload hx hb dX6_heldAt_51 (lv_at hl 0 rfl) ?_
              refine lv_if_eq (tgt := 67) hx hb dX6_heldAt_53 (by decide) (fun c53 => absurd c53 (by decide)) (fun c53 => ?_)
              refine lv_iload_n hx hb dX6_heldAt_56 rfl (lv_at hl 3 rfl) ?_
              refine lv_if_ne (tgt := 67) hx hb dX6_heldAt_57 (by decide) (fun c57 => ?_) (fun c57 => ?_)
              · refine lv_iload_n hx hb dX6_heldAt_67 rfl (lv_at hl 3 rfl) ?_
                refine lv_iload hx hb dX6_heldAt_68 (lv_at hl 0 rfl) ?_
                refine lv_if_eq (tgt := 77) hx hb dX6_heldAt_70 (by decide) (fun c70 => absurd c70 (by decide)) (fun c70 => ?_)
                refine lv_iconst (v := 1) hx hb dX6_heldAt_73 (by decide) ?_
                refine lv_goto (tgt := 78) hx hb dX6_heldAt_74 (by decide) ?_
                refine lv_isub hx hb dX6_heldAt_78 ?_
                refine lv_istore_n (lv' := [(2, .int (x2 - 1)), (4, .int 1), (0, .ref (g zM)), (1, .int a), (3, .int (nI j))]) hx hb dX6_heldAt_79 rfl hl (by decide) rfl (fun ls hl => ?_)
                refine lv_iinc (v := (nI j) + 1) (lv' := [(3, .int ((nI j) + 1)), (2, .int (x2 - 1)), (4, .int 1), (0, .ref (g zM)), (1, .int a)]) hx hb dX6_heldAt_80 hl (k := 4) rfl rfl (by decide) rfl (fun ls hl => ?_)
                refine lv_goto (tgt := 4) hx hb dX6_heldAt_83 (by decide) ?_
                have h9 : lv_has ls 5 [(0, .ref (g zM)), (1, .int a), (2, .int (x2 - 1)), (3, .int ((nI j) + 1))] := lv_sub hl [3, 4, 1, 0] rfl
                rw [nI_1] at h9
                simp only [zl_heldAt, if_neg c13, if_pos c27, if_neg c41, if_neg c57]
                exact ih (j + 1) (x2 - 1) ls _ _ hw (by omega) h9
              · refine lv_aload_n hx hb dX6_heldAt_60 rfl (lv_at hl 1 rfl) ?_
                refine fg6 hx hb ht hown hK hw (zs_m hz) rfl 24 wf6_62 (by decide) (nh_vr rfl (zr24 hz)) dX6_heldAt_61 ?_
                refine lv_iload_n hx hb dX6_heldAt_64 rfl (lv_at hl 4 rfl) ?_
                refine ai_ld hx hb hK hw (zs24 hz) rfl hj9 dX6_heldAt_65 ?_
                refine nh_iret hx hb hr rfl hlocks hw (Nat.zero_le _) (Nat.zero_le _) dX6_heldAt_66 ?_
                simp only [zl_heldAt, if_neg c13, if_pos c27, if_neg c41, if_pos c57]
                exact im_fin rfl rfl
  refine lv_iload_n hx hb dX6_heldAt_0 rfl (lv_at hl 1 rfl) ?_
  refine lv_istore_n (lv' := [(2, .int a), (0, .ref (g zM)), (1, .int a)]) hx hb dX6_heldAt_1 rfl hl (by decide) rfl (fun ls hl => ?_)
  refine lv_iconst (v := 0) hx hb dX6_heldAt_2 (by decide) ?_
  refine lv_istore_n (lv' := [(3, .int 0), (2, .int a), (0, .ref (g zM)), (1, .int a)]) hx hb dX6_heldAt_3 rfl hl (by decide) rfl (fun ls hl => ?_)
  exact loop nb 0 a ls _ _ hw (by omega) (by rw [nI_0]; exact lv_sub hl [2, 3, 1, 0] rfl)
def zf_held (J : (nh_N → Nat → Int32)) (nb : Nat) (a : Int32) : Int32 := (zf_heldAt J nb a)
set_option maxHeartbeats 4000000 in
set_option maxRecDepth 100000 in
theorem zc_held (l : Launch) (D : va_G) (cA : Nat → ClassId) {S : nh_N → Option nh_C} {g : nh_N → Nat} {J : (nh_N → Nat → Int32)} {R : nh_N → Nat → Option nh_N} (hz : zSh S R) (a : Int32) (nb : Nat) (hnb : J zM 23 = nI nb) (hb2 : nb ≤ 200) (hor : ∀ q, q < nb → ∃ i, i < 200 ∧ J (zA 24) q = nI i) : im_M l D cA yX6_held vX6_held 1 24 0 0 [.ref (g zM), .int a] S g J R (im_eq (some (.int (zf_held J nb a))) S g J R) := by
  refine nh_of (cc := cX6_held) (maxL := 2) (ret := (some .int)) (by decide) rfl (Nat.le_of_ble_eq_true rfl) ?_
  intro p e s m below meth c A ls hx hb hr hml hts hown hlocks hin hK hw hl
  have ht : ∀ w ∈ im_ws, w.before _ s = true := fun w h => hts w (List.mem_cons_of_mem _ h)
  have hl : lv_has ls 2 [(0, .ref (g zM)), (1, .int a)] := hl
  refine lv_aload_n hx hb dX6_held_0 rfl (lv_at hl 0 rfl) ?_
  refine lv_iload_n hx hb dX6_held_1 rfl (lv_at hl 1 rfl) ?_
  refine kcX6_heldAt (As := [.int a]) (rest := []) wm6_123 (zc_heldAt l D cA hz a nb hnb hb2 hor) hx hb hml ht hown hK hw (zs_m hz) rfl rfl hl.1 rfl (by simp [Value.category]) ⟨by decide, by decide⟩ ⟨by simp, by simp⟩ dX6_held_2 (fun v S1 g1 I1 R1 H locs hp hw => ?_)
  obtain ⟨rfl, h1, h2, h3, h4⟩ := hp
  rw [h1, h2, h3, h4] at hw
  clear h1 h2 h3 h4
  show W _ _ _ _ _ _ _ _ _ _ _ _ _ _ _ (F0 m 5 ls [.int (zf_heldAt J nb a)])
  refine nh_iret hx hb hr rfl hlocks hw (Nat.zero_le _) (Nat.zero_le _) dX6_held_5 ?_
  exact im_fin rfl rfl
theorem zi_cl {J : nh_N → Nat → Int32} {b : Int32} (h : ¬ zf_in J b 0 39 = 0) : b = nI b.toNatClampNeg := by
  have h1 : vp_in b 40 := zi_in (x := 40) h (show (40 : Int32) = nI 40 from rfl) (Nat.le_refl _)
  obtain ⟨j, hj, rfl⟩ := vp_in_of h1 (by decide)
  rw [nI_clamp (by omega)]
theorem zi_40 {J : nh_N → Nat → Int32} {b : Int32} (h : ¬ zf_in J b 0 39 = 0) : b.toNatClampNeg ≤ 40 := by
  have h1 : vp_in b 40 := zi_in (x := 40) h (show (40 : Int32) = nI 40 from rfl) (Nat.le_refl _)
  obtain ⟨j, hj, rfl⟩ := vp_in_of h1 (by decide)
  rw [nI_clamp (by omega)]
  omega
def zf_used (J : (nh_N → Nat → Int32)) (np : Nat) (a : Int32) (b : Int32) : Int32 := (if (zf_in J a 0 39) = 0 then (-1) else (if b = (-1) then (zf_standing J np a b) else (if (zf_isClass J b) = 0 then (-1) else (zf_standing J np a b))))
set_option maxHeartbeats 4000000 in
set_option maxRecDepth 100000 in
theorem zc_used (l : Launch) (D : va_G) (cA : Nat → ClassId) {S : nh_N → Option nh_C} {g : nh_N → Nat} {J : (nh_N → Nat → Int32)} {R : nh_N → Nat → Option nh_N} (hz : zSh S R) (a : Int32) (b : Int32) (np : Nat) (hnp : J zM 18 = nI np) (hp9 : np ≤ 9000) (hpi : ∀ q, q < np → ∃ i, i < 200 ∧ J (zA 20) q = nI i) : im_M l D cA yX6_used vX6_used 2 43 0 0 [.ref (g zM), .int a, .int b] S g J R (im_eq (some (.int (zf_used J np a b))) S g J R) := by
  refine nh_of (cc := cX6_used) (maxL := 3) (ret := (some .int)) (by decide) rfl (Nat.le_of_ble_eq_true rfl) ?_
  intro p e s m below meth c A ls hx hb hr hml hts hown hlocks hin hK hw hl
  have ht : ∀ w ∈ im_ws, w.before _ s = true := fun w h => hts w (List.mem_cons_of_mem _ h)
  have hl : lv_has ls 3 [(0, .ref (g zM)), (1, .int a), (2, .int b)] := hl
  refine lv_iload_n hx hb dX6_used_0 rfl (lv_at hl 1 rfl) ?_
  refine lv_iconst (v := 0) hx hb dX6_used_1 (by decide) ?_
  refine lv_bipush (v := 39) hx hb dX6_used_2 (by decide) ?_
  refine kcX6_in (As := [.int a, .int 0, .int 39]) (rest := []) wm6_78 (zc_in l D cA a 0 39) hx hb hml ht hown hK hw rfl hl.1 rfl (by simp [Value.category]) ⟨by decide, by decide⟩ ⟨by simp, by simp⟩ dX6_used_4 (fun v S1 g1 I1 R1 H locs hp hw => ?_)
  obtain ⟨rfl, h1, h2, h3, h4⟩ := hp
  rw [h1, h2, h3, h4] at hw
  clear h1 h2 h3 h4
  show W _ _ _ _ _ _ _ _ _ _ _ _ _ _ _ (F0 m 7 ls [.int (zf_in J a 0 39)])
  refine lv_if_eq (tgt := 23) hx hb dX6_used_7 (by decide) (fun c7 => ?_) (fun c7 => ?_)
  · refine lv_iconst (v := (-1)) hx hb dX6_used_23 (by decide) ?_
    refine lv_goto (tgt := 33) hx hb dX6_used_24 (by decide) ?_
    refine nh_iret hx hb hr rfl hlocks hw (Nat.zero_le _) (Nat.zero_le _) dX6_used_33 ?_
    simp only [zf_used, if_pos c7]
    exact im_fin rfl rfl
  · refine lv_iload_n hx hb dX6_used_10 rfl (lv_at hl 2 rfl) ?_
    refine lv_iconst (v := (-1)) hx hb dX6_used_11 (by decide) ?_
    refine lv_icmp_eq (tgt := 27) hx hb dX6_used_12 (by decide) (fun c12 => ?_) (fun c12 => ?_)
    · refine lv_aload_n hx hb dX6_used_27 rfl (lv_at hl 0 rfl) ?_
      refine lv_iload_n hx hb dX6_used_28 rfl (lv_at hl 1 rfl) ?_
      refine lv_iload_n hx hb dX6_used_29 rfl (lv_at hl 2 rfl) ?_
      refine kcX6_standing (As := [.int a, .int b]) (rest := []) wm6_101 (zc_standing l D cA hz a b np (by simp [iu_e, zM, zA, iu_e, hnp]) (by omega) (by simpa [iu_e, zM, zA, iu_e] using hpi)) hx hb hml ht hown hK hw (zs_m hz) rfl rfl hl.1 rfl (by simp [Value.category]) ⟨by decide, by decide⟩ ⟨by simp, by simp⟩ dX6_used_30 (fun v S1 g1 I1 R1 H locs hp hw => ?_)
      obtain ⟨rfl, h1, h2, h3, h4⟩ := hp
      rw [h1, h2, h3, h4] at hw
      clear h1 h2 h3 h4
      show W _ _ _ _ _ _ _ _ _ _ _ _ _ _ _ (F0 m 33 ls [.int (zf_standing J np a b)])
      refine nh_iret hx hb hr rfl hlocks hw (Nat.zero_le _) (Nat.zero_le _) dX6_used_33 ?_
      simp only [zf_used, if_neg c7, if_pos c12]
      exact im_fin rfl rfl
    · refine lv_aload_n hx hb dX6_used_15 rfl (lv_at hl 0 rfl) ?_
      refine lv_iload_n hx hb dX6_used_16 rfl (lv_at hl 2 rfl) ?_
      refine kcX6_isClass (As := [.int b]) (rest := []) wm6_82 (zc_isClass l D cA hz b) hx hb hml ht hown hK hw (zs_m hz) rfl rfl hl.1 rfl (by simp [Value.category]) ⟨by decide, by decide⟩ ⟨by simp, by simp⟩ dX6_used_17 (fun v S1 g1 I1 R1 H locs hp hw => ?_)
      obtain ⟨rfl, h1, h2, h3, h4⟩ := hp
      rw [h1, h2, h3, h4] at hw
      clear h1 h2 h3 h4
      show W _ _ _ _ _ _ _ _ _ _ _ _ _ _ _ (F0 m 20 ls [.int (zf_isClass J b)])
      refine lv_if_ne (tgt := 27) hx hb dX6_used_20 (by decide) (fun c20 => ?_) (fun c20 => ?_)
      · refine lv_aload_n hx hb dX6_used_27 rfl (lv_at hl 0 rfl) ?_
        refine lv_iload_n hx hb dX6_used_28 rfl (lv_at hl 1 rfl) ?_
        refine lv_iload_n hx hb dX6_used_29 rfl (lv_at hl 2 rfl) ?_
        refine kcX6_standing (As := [.int a, .int b]) (rest := []) wm6_101 (zc_standing l D cA hz a b np (by simp [iu_e, zM, zA, iu_e, hnp]) (by omega) (by simpa [iu_e, zM, zA, iu_e] using hpi)) hx hb hml ht hown hK hw (zs_m hz) rfl rfl hl.1 rfl (by simp [Value.category]) ⟨by decide, by decide⟩ ⟨by simp, by simp⟩ dX6_used_30 (fun v S1 g1 I1 R1 H locs hp hw => ?_)
        obtain ⟨rfl, h1, h2, h3, h4⟩ := hp
        rw [h1, h2, h3, h4] at hw
        clear h1 h2 h3 h4
        show W _ _ _ _ _ _ _ _ _ _ _ _ _ _ _ (F0 m 33 ls [.int (zf_standing J np a b)])
        refine nh_iret hx hb hr rfl hlocks hw (Nat.zero_le _) (Nat.zero_le _) dX6_used_33 ?_
        simp only [zf_used, if_neg c7, if_neg c12, if_neg c20]
        exact im_fin rfl rfl
      · refine lv_iconst (v := (-1)) hx hb dX6_used_23 (by decide) ?_
        refine lv_goto (tgt := 33) hx hb dX6_used_24 (by decide) ?_
        refine nh_iret hx hb hr rfl hlocks hw (Nat.zero_le _) (Nat.zero_le _) dX6_used_33 ?_
        simp only [zf_used, if_neg c7, if_neg c12, if_pos c20]
        exact im_fin rfl rfl
def zf_seen (J : (nh_N → Nat → Int32)) (nm : Nat) (a : Int32) (b : Int32) (d : Int32) : Int32 := (if (zf_isClass J a) = 0 then 0 else (if (zf_in J b 0 39) = 0 then 0 else (if (zf_in J d 0 2) = 0 then 0 else (if d = 0 then (zf_lastBefore J nm b.toNatClampNeg a b) else (if d = 1 then (if 0 ≤ (zf_markOn J nm a b 1) then (J (zA 16) (zf_markOn J nm a b 1).toNatClampNeg) else (zf_lastBefore J nm b.toNatClampNeg a b)) else (if 0 ≤ (zf_markOn J nm a b 0) then (J (zA 16) (zf_markOn J nm a b 0).toNatClampNeg) else (zf_lastBefore J nm b.toNatClampNeg a b)))))))
set_option maxHeartbeats 4000000 in
set_option maxRecDepth 100000 in
theorem zc_seen (l : Launch) (D : va_G) (cA : Nat → ClassId) {S : nh_N → Option nh_C} {g : nh_N → Nat} {J : (nh_N → Nat → Int32)} {R : nh_N → Nat → Option nh_N} (hz : zSh S R) (a : Int32) (b : Int32) (d : Int32) (nm : Nat) (hnm : J zM 13 = nI nm) (hm3 : nm ≤ 300) : im_M l D cA yX6_seen vX6_seen 2 49 0 0 [.ref (g zM), .int a, .int b, .int d] S g J R (im_eq (some (.int (zf_seen J nm a b d))) S g J R) := by
  refine nh_of (cc := cX6_seen) (maxL := 5) (ret := (some .int)) (by decide) rfl (Nat.le_of_ble_eq_true rfl) ?_
  intro p e s m below meth c A ls hx hb hr hml hts hown hlocks hin hK hw hl
  have ht : ∀ w ∈ im_ws, w.before _ s = true := fun w h => hts w (List.mem_cons_of_mem _ h)
  have hl : lv_has ls 5 [(0, .ref (g zM)), (1, .int a), (2, .int b), (3, .int d)] := hl
  refine lv_aload_n hx hb dX6_seen_0 rfl (lv_at hl 0 rfl) ?_
  refine lv_iload_n hx hb dX6_seen_1 rfl (lv_at hl 1 rfl) ?_
  refine kcX6_isClass (As := [.int a]) (rest := []) wm6_82 (zc_isClass l D cA hz a) hx hb hml ht hown hK hw (zs_m hz) rfl rfl hl.1 rfl (by simp [Value.category]) ⟨by decide, by decide⟩ ⟨by simp, by simp⟩ dX6_seen_2 (fun v S1 g1 I1 R1 H locs hp hw => ?_)
  obtain ⟨rfl, h1, h2, h3, h4⟩ := hp
  rw [h1, h2, h3, h4] at hw
  clear h1 h2 h3 h4
  show W _ _ _ _ _ _ _ _ _ _ _ _ _ _ _ (F0 m 5 ls [.int (zf_isClass J a)])
  refine lv_if_eq (tgt := 27) hx hb dX6_seen_5 (by decide) (fun c5 => ?_) (fun c5 => ?_)
  · refine lv_iconst (v := 0) hx hb dX6_seen_27 (by decide) ?_
    refine nh_iret hx hb hr rfl hlocks hw (Nat.zero_le _) (Nat.zero_le _) dX6_seen_28 ?_
    simp only [zf_seen, if_pos c5]
    exact im_fin rfl rfl
  · refine lv_iload_n hx hb dX6_seen_8 rfl (lv_at hl 2 rfl) ?_
    refine lv_iconst (v := 0) hx hb dX6_seen_9 (by decide) ?_
    refine lv_bipush (v := 39) hx hb dX6_seen_10 (by decide) ?_
    refine kcX6_in (As := [.int b, .int 0, .int 39]) (rest := []) wm6_78 (zc_in l D cA b 0 39) hx hb hml ht hown hK hw rfl hl.1 rfl (by simp [Value.category]) ⟨by decide, by decide⟩ ⟨by simp, by simp⟩ dX6_seen_12 (fun v S1 g1 I1 R1 H locs hp hw => ?_)
    obtain ⟨rfl, h1, h2, h3, h4⟩ := hp
    rw [h1, h2, h3, h4] at hw
    clear h1 h2 h3 h4
    show W _ _ _ _ _ _ _ _ _ _ _ _ _ _ _ (F0 m 15 ls [.int (zf_in J b 0 39)])
    refine lv_if_eq (tgt := 27) hx hb dX6_seen_15 (by decide) (fun c15 => ?_) (fun c15 => ?_)
    · refine lv_iconst (v := 0) hx hb dX6_seen_27 (by decide) ?_
      refine nh_iret hx hb hr rfl hlocks hw (Nat.zero_le _) (Nat.zero_le _) dX6_seen_28 ?_
      simp only [zf_seen, if_neg c5, if_pos c15]
      exact im_fin rfl rfl
    · refine lv_iload_n hx hb dX6_seen_18 rfl (lv_at hl 3 rfl) ?_
      refine lv_iconst (v := 0) hx hb dX6_seen_19 (by decide) ?_
      refine lv_iconst (v := 2) hx hb dX6_seen_20 (by decide) ?_
      refine kcX6_in (As := [.int d, .int 0, .int 2]) (rest := []) wm6_78 (zc_in l D cA d 0 2) hx hb hml ht hown hK hw rfl hl.1 rfl (by simp [Value.category]) ⟨by decide, by decide⟩ ⟨by simp, by simp⟩ dX6_seen_21 (fun v S1 g1 I1 R1 H locs hp hw => ?_)
      obtain ⟨rfl, h1, h2, h3, h4⟩ := hp
      rw [h1, h2, h3, h4] at hw
      clear h1 h2 h3 h4
      show W _ _ _ _ _ _ _ _ _ _ _ _ _ _ _ (F0 m 24 ls [.int (zf_in J d 0 2)])
      refine lv_if_ne (tgt := 29) hx hb dX6_seen_24 (by decide) (fun c24 => ?_) (fun c24 => ?_)
      · refine lv_iload_n hx hb dX6_seen_29 rfl (lv_at hl 3 rfl) ?_
        refine lv_if_ne (tgt := 37) hx hb dX6_seen_30 (by decide) (fun c30 => ?_) (fun c30 => ?_)
        · refine lv_aload_n hx hb dX6_seen_37 rfl (lv_at hl 0 rfl) ?_
          refine lv_iload_n hx hb dX6_seen_38 rfl (lv_at hl 1 rfl) ?_
          refine lv_iload_n hx hb dX6_seen_39 rfl (lv_at hl 2 rfl) ?_
          refine lv_iload_n hx hb dX6_seen_40 rfl (lv_at hl 3 rfl) ?_
          refine lv_iconst (v := 1) hx hb dX6_seen_41 (by decide) ?_
          refine lv_icmp_ne (tgt := 49) hx hb dX6_seen_42 (by decide) (fun c42 => ?_) (fun c42 => ?_)
          · refine lv_iconst (v := 0) hx hb dX6_seen_49 (by decide) ?_
            refine kcX6_markOn (As := [.int a, .int b, .int 0]) (rest := []) wm6_134 (zc_markOn l D cA hz a b 0 nm hnm hm3) hx hb hml ht hown hK hw (zs_m hz) rfl rfl hl.1 rfl (by simp [Value.category]) ⟨by decide, by decide⟩ ⟨by simp, by simp⟩ dX6_seen_50 (fun v S1 g1 I1 R1 H locs hp hw => ?_)
            obtain ⟨rfl, h1, h2, h3, h4⟩ := hp
            rw [h1, h2, h3, h4] at hw
            clear h1 h2 h3 h4
            show W _ _ _ _ _ _ _ _ _ _ _ _ _ _ _ (F0 m 53 ls [.int (zf_markOn J nm a b 0)])
            refine lv_istore (lv' := [(4, .int (zf_markOn J nm a b 0)), (0, .ref (g zM)), (1, .int a), (2, .int b), (3, .int d)]) hx hb dX6_seen_53 hl (by decide) rfl (fun ls hl => ?_)
            refine lv_iload hx hb dX6_seen_55 (lv_at hl 0 rfl) ?_
            refine lv_if_ge (tgt := 69) hx hb dX6_seen_57 (by decide) (fun c57 => ?_) (fun c57 => ?_)
            · obtain ⟨q9, hq9, eq9⟩ := zx_markOn (by omega) (Int32.not_lt.mpr c57)
              refine lv_aload_n hx hb dX6_seen_69 rfl (lv_at hl 1 rfl) ?_
              refine fg6 hx hb ht hown hK hw (zs_m hz) rfl 16 wf6_47 (by decide) (nh_vr rfl (zr16 hz)) dX6_seen_70 ?_
              refine lv_iload hx hb dX6_seen_73 (lv_at hl 0 rfl) ?_
              refine ai_ld hx hb hK hw (zs16 hz) rfl (ix_of q9 eq9 (by omega) (by decide)) dX6_seen_75 ?_
              refine nh_iret hx hb hr rfl hlocks hw (Nat.zero_le _) (Nat.zero_le _) dX6_seen_76 ?_
              simp only [zf_seen, if_neg c5, if_neg c15, if_neg c24, if_neg c30, if_neg c42, if_pos c57]
              exact im_fin rfl rfl
            · refine lv_aload_n hx hb dX6_seen_60 rfl (lv_at hl 1 rfl) ?_
              refine lv_iload_n hx hb dX6_seen_61 rfl (lv_at hl 2 rfl) ?_
              refine lv_iload_n hx hb dX6_seen_62 rfl (lv_at hl 3 rfl) ?_
              refine kcX6_lastBefore (As := [.int a, .int b]) (rest := []) wm6_138 (zc_lastBefore l D cA hz a b b.toNatClampNeg (zi_cl c15) (zi_40 c15) nm hnm hm3) hx hb hml ht hown hK hw (zs_m hz) rfl rfl hl.1 rfl (by simp [Value.category]) ⟨by decide, by decide⟩ ⟨by simp, by simp⟩ dX6_seen_63 (fun v S1 g1 I1 R1 H locs hp hw => ?_)
              obtain ⟨rfl, h1, h2, h3, h4⟩ := hp
              rw [h1, h2, h3, h4] at hw
              clear h1 h2 h3 h4
              show W _ _ _ _ _ _ _ _ _ _ _ _ _ _ _ (F0 m 66 ls [.int (zf_lastBefore J nm b.toNatClampNeg a b)])
              refine lv_goto (tgt := 76) hx hb dX6_seen_66 (by decide) ?_
              refine nh_iret hx hb hr rfl hlocks hw (Nat.zero_le _) (Nat.zero_le _) dX6_seen_76 ?_
              simp only [zf_seen, if_neg c5, if_neg c15, if_neg c24, if_neg c30, if_neg c42, if_neg c57]
              exact im_fin rfl rfl
          · refine lv_iconst (v := 1) hx hb dX6_seen_45 (by decide) ?_
            refine lv_goto (tgt := 50) hx hb dX6_seen_46 (by decide) ?_
            refine kcX6_markOn (As := [.int a, .int b, .int 1]) (rest := []) wm6_134 (zc_markOn l D cA hz a b 1 nm hnm hm3) hx hb hml ht hown hK hw (zs_m hz) rfl rfl hl.1 rfl (by simp [Value.category]) ⟨by decide, by decide⟩ ⟨by simp, by simp⟩ dX6_seen_50 (fun v S1 g1 I1 R1 H locs hp hw => ?_)
            obtain ⟨rfl, h1, h2, h3, h4⟩ := hp
            rw [h1, h2, h3, h4] at hw
            clear h1 h2 h3 h4
            show W _ _ _ _ _ _ _ _ _ _ _ _ _ _ _ (F0 m 53 ls [.int (zf_markOn J nm a b 1)])
            refine lv_istore (lv' := [(4, .int (zf_markOn J nm a b 1)), (0, .ref (g zM)), (1, .int a), (2, .int b), (3, .int d)]) hx hb dX6_seen_53 hl (by decide) rfl (fun ls hl => ?_)
            refine lv_iload hx hb dX6_seen_55 (lv_at hl 0 rfl) ?_
            refine lv_if_ge (tgt := 69) hx hb dX6_seen_57 (by decide) (fun c57 => ?_) (fun c57 => ?_)
            · obtain ⟨q9, hq9, eq9⟩ := zx_markOn (by omega) (Int32.not_lt.mpr c57)
              refine lv_aload_n hx hb dX6_seen_69 rfl (lv_at hl 1 rfl) ?_
              refine fg6 hx hb ht hown hK hw (zs_m hz) rfl 16 wf6_47 (by decide) (nh_vr rfl (zr16 hz)) dX6_seen_70 ?_
              refine lv_iload hx hb dX6_seen_73 (lv_at hl 0 rfl) ?_
              refine ai_ld hx hb hK hw (zs16 hz) rfl (ix_of q9 eq9 (by omega) (by decide)) dX6_seen_75 ?_
              refine nh_iret hx hb hr rfl hlocks hw (Nat.zero_le _) (Nat.zero_le _) dX6_seen_76 ?_
              simp only [zf_seen, if_neg c5, if_neg c15, if_neg c24, if_neg c30, if_pos c42, if_pos c57]
              exact im_fin rfl rfl
            · refine lv_aload_n hx hb dX6_seen_60 rfl (lv_at hl 1 rfl) ?_
              refine lv_iload_n hx hb dX6_seen_61 rfl (lv_at hl 2 rfl) ?_
              refine lv_iload_n hx hb dX6_seen_62 rfl (lv_at hl 3 rfl) ?_
              refine kcX6_lastBefore (As := [.int a, .int b]) (rest := []) wm6_138 (zc_lastBefore l D cA hz a b b.toNatClampNeg (zi_cl c15) (zi_40 c15) nm hnm hm3) hx hb hml ht hown hK hw (zs_m hz) rfl rfl hl.1 rfl (by simp [Value.category]) ⟨by decide, by decide⟩ ⟨by simp, by simp⟩ dX6_seen_63 (fun v S1 g1 I1 R1 H locs hp hw => ?_)
              obtain ⟨rfl, h1, h2, h3, h4⟩ := hp
              rw [h1, h2, h3, h4] at hw
              clear h1 h2 h3 h4
              show W _ _ _ _ _ _ _ _ _ _ _ _ _ _ _ (F0 m 66 ls [.int (zf_lastBefore J nm b.toNatClampNeg a b)])
              refine lv_goto (tgt := 76) hx hb dX6_seen_66 (by decide) ?_
              refine nh_iret hx hb hr rfl hlocks hw (Nat.zero_le _) (Nat.zero_le _) dX6_seen_76 ?_
              simp only [zf_seen, if_neg c5, if_neg c15, if_neg c24, if_neg c30, if_pos c42, if_neg c57]
              exact im_fin rfl rfl
        · refine lv_iconst (v := (-1)) hx hb dX6_seen_33 (by decide) ?_
          refine lv_goto (tgt := 53) hx hb dX6_seen_34 (by decide) ?_
          refine lv_istore (lv' := [(4, .int (-1)), (0, .ref (g zM)), (1, .int a), (2, .int b), (3, .int d)]) hx hb dX6_seen_53 hl (by decide) rfl (fun ls hl => ?_)
          refine lv_iload hx hb dX6_seen_55 (lv_at hl 0 rfl) ?_
          refine lv_if_ge (tgt := 69) hx hb dX6_seen_57 (by decide) (fun c57 => absurd c57 (by decide)) (fun c57 => ?_)
          refine lv_aload_n hx hb dX6_seen_60 rfl (lv_at hl 1 rfl) ?_
          refine lv_iload_n hx hb dX6_seen_61 rfl (lv_at hl 2 rfl) ?_
          refine lv_iload_n hx hb dX6_seen_62 rfl (lv_at hl 3 rfl) ?_
          refine kcX6_lastBefore (As := [.int a, .int b]) (rest := []) wm6_138 (zc_lastBefore l D cA hz a b b.toNatClampNeg (zi_cl c15) (zi_40 c15) nm hnm hm3) hx hb hml ht hown hK hw (zs_m hz) rfl rfl hl.1 rfl (by simp [Value.category]) ⟨by decide, by decide⟩ ⟨by simp, by simp⟩ dX6_seen_63 (fun v S1 g1 I1 R1 H locs hp hw => ?_)
          obtain ⟨rfl, h1, h2, h3, h4⟩ := hp
          rw [h1, h2, h3, h4] at hw
          clear h1 h2 h3 h4
          show W _ _ _ _ _ _ _ _ _ _ _ _ _ _ _ (F0 m 66 ls [.int (zf_lastBefore J nm b.toNatClampNeg a b)])
          refine lv_goto (tgt := 76) hx hb dX6_seen_66 (by decide) ?_
          refine nh_iret hx hb hr rfl hlocks hw (Nat.zero_le _) (Nat.zero_le _) dX6_seen_76 ?_
          simp only [zf_seen, if_neg c5, if_neg c15, if_neg c24, if_pos c30]
          exact im_fin rfl rfl
      · refine lv_iconst (v := 0) hx hb dX6_seen_27 (by decide) ?_
        refine nh_iret hx hb hr rfl hlocks hw (Nat.zero_le _) (Nat.zero_le _) dX6_seen_28 ?_
        simp only [zf_seen, if_neg c5, if_neg c15, if_pos c24]
        exact im_fin rfl rfl
def zl_count (J : (nh_N → Nat → Int32))  (a : Int32) : Nat → Nat → Int32
  | 0, j => (nI j)
  | r + 1, j => zl_count J  a r (j + 1) 
def zf_count (J : (nh_N → Nat → Int32))  (hc : Nat) (a : Int32) : Int32 := (if a = 0 then (J zM 1) else (if a = 1 then (J zM 6) else (if a = 2 then (J zM 13) else (if a = 3 then (J zM 17) else (if a = 4 then zl_count J  a hc 0  else (-2))))))
set_option maxHeartbeats 4000000 in
set_option maxRecDepth 100000 in
theorem zc_count (l : Launch) (D : va_G) (cA : Nat → ClassId) {S : nh_N → Option nh_C} {g : nh_N → Nat} {J : (nh_N → Nat → Int32)} {R : nh_N → Nat → Option nh_N} (hz : zSh S R) (a : Int32) (nb : Nat) (hnb : J zM 23 = nI nb) (hb2 : nb ≤ 200) (hor : ∀ q, q < nb → ∃ i, i < 200 ∧ J (zA 24) q = nI i) (hc : Nat) (hc2 : hc ≤ 200) (hc0 : ∀ j, j < hc → ¬ zf_heldAt J nb (nI j) < 0) (hc1 : zf_heldAt J nb (nI hc) < 0) : im_M l D cA yX6_count vX6_count 1 24 0 0 [.ref (g zM), .int a] S g J R (im_eq (some (.int (zf_count J  hc a))) S g J R) := by
  refine nh_of (cc := cX6_count) (maxL := 3) (ret := (some .int)) (by decide) rfl (Nat.le_of_ble_eq_true rfl) ?_
  intro p e s m below meth c A ls hx hb hr hml hts hown hlocks hin hK hw hl
  have ht : ∀ w ∈ im_ws, w.before _ s = true := fun w h => hts w (List.mem_cons_of_mem _ h)
  have hl : lv_has ls 3 [(0, .ref (g zM)), (1, .int a)] := hl
  have loop : ∀ (r j : Nat)  (ls : Array Slot) (H : Heap) (locs : List Loc), nh_S D im_cl im_sk cA A s.heap S g J R H locs → j + r = hc → lv_has ls 3 [(0, .ref (g zM)), (1, .int a), (2, .int (nI j))] → W p l e { frames := 1, cells := 0, slots := 0, locals := 24 } s m ([.ref (g zM), .int a] : List Value).toArray below meth c H locs 0 0 (MQ below (nh_Q D im_cl im_sk cA A (im_eq (some (.int (zl_count J  a r j ))) S g J R)) ([.ref (g zM), .int a] : List Value).toArray s 0 0 A) (F0 m 56 ls []) := by
    intro r
    induction r with
    | zero =>
      intro j  ls H locs hw hj hl
      refine lv_aload_n hx hb dX6_count_56 rfl (lv_at hl 0 rfl) ?_
      refine lv_iload_n hx hb dX6_count_57 rfl (lv_at hl 2 rfl) ?_
      refine kcX6_heldAt (As := [.int (nI j)]) (rest := []) wm6_123 (zc_heldAt l D cA hz (nI j) nb hnb hb2 hor) hx hb hml ht hown hK hw (zs_m hz) rfl rfl hl.1 rfl (by simp [Value.category]) ⟨by decide, by decide⟩ ⟨by simp, by simp⟩ dX6_count_58 (fun v S1 g1 I1 R1 H locs hp hw => ?_)
      obtain ⟨rfl, h1, h2, h3, h4⟩ := hp
      rw [h1, h2, h3, h4] at hw
      clear h1 h2 h3 h4
      show W _ _ _ _ _ _ _ _ _ _ _ _ _ _ _ (F0 m 61 ls [.int (zf_heldAt J nb (nI j))])
      refine lv_if_lt (tgt := 70) hx hb dX6_count_61 (by decide) (fun c61 => ?_) (fun c61 => ?_)
      · refine lv_iload_n hx hb dX6_count_70 rfl (lv_at hl 2 rfl) ?_
        refine nh_iret hx hb hr rfl hlocks hw (Nat.zero_le _) (Nat.zero_le _) dX6_count_71 ?_
        exact im_fin rfl rfl
      · exact absurd (by rw [show j = hc by omega]; exact hc1) c61
    | succ r ih =>
      intro j  ls H locs hw hj hl
      refine lv_aload_n hx hb dX6_count_56 rfl (lv_at hl 0 rfl) ?_
      refine lv_iload_n hx hb dX6_count_57 rfl (lv_at hl 2 rfl) ?_
      refine kcX6_heldAt (As := [.int (nI j)]) (rest := []) wm6_123 (zc_heldAt l D cA hz (nI j) nb hnb hb2 hor) hx hb hml ht hown hK hw (zs_m hz) rfl rfl hl.1 rfl (by simp [Value.category]) ⟨by decide, by decide⟩ ⟨by simp, by simp⟩ dX6_count_58 (fun v S1 g1 I1 R1 H locs hp hw => ?_)
      obtain ⟨rfl, h1, h2, h3, h4⟩ := hp
      rw [h1, h2, h3, h4] at hw
      clear h1 h2 h3 h4
      show W _ _ _ _ _ _ _ _ _ _ _ _ _ _ _ (F0 m 61 ls [.int (zf_heldAt J nb (nI j))])
      refine lv_if_lt (tgt := 70) hx hb dX6_count_61 (by decide) (fun c61 => ?_) (fun c61 => ?_)
      · exact absurd c61 (hc0 j (by omega))
      · refine lv_iinc (v := (nI j) + 1) (lv' := [(2, .int ((nI j) + 1)), (0, .ref (g zM)), (1, .int a)]) hx hb dX6_count_64 hl (k := 2) rfl rfl (by decide) rfl (fun ls hl => ?_)
        refine lv_goto (tgt := 56) hx hb dX6_count_67 (by decide) ?_
        have h9 : lv_has ls 3 [(0, .ref (g zM)), (1, .int a), (2, .int ((nI j) + 1))] := lv_sub hl [1, 2, 0] rfl
        rw [nI_1] at h9
        simp only [zl_count]
        exact ih (j + 1)  ls _ _ hw (by omega) h9
  refine lv_iconst (v := 0) hx hb dX6_count_0 (by decide) ?_
  refine lv_istore_n (lv' := [(2, .int 0), (0, .ref (g zM)), (1, .int a)]) hx hb dX6_count_1 rfl hl (by decide) rfl (fun ls hl => ?_)
  refine lv_iload_n hx hb dX6_count_2 rfl (lv_at hl 2 rfl) ?_
  by_cases c3_0 : a = 0
  · refine lv_tableIn (tgt := 36) hx hb dX6_count_3 (by rw [c3_0]; decide) (by rw [c3_0]; decide) (by rw [c3_0]; rfl) (by decide) ?_
    refine lv_aload_n hx hb dX6_count_36 rfl (lv_at hl 1 rfl) ?_
    refine fg6 (v := .int (J zM 1)) hx hb ht hown hK hw (zs_m hz) rfl 1 wf6_75 (by decide) (nh_vi rfl) dX6_count_37 ?_
    refine nh_iret hx hb hr rfl hlocks hw (Nat.zero_le _) (Nat.zero_le _) dX6_count_40 ?_
    simp only [zf_count, if_pos c3_0]
    exact im_fin rfl rfl
  by_cases c3_1 : a = 1
  · refine lv_tableIn (tgt := 41) hx hb dX6_count_3 (by rw [c3_1]; decide) (by rw [c3_1]; decide) (by rw [c3_1]; rfl) (by decide) ?_
    refine lv_aload_n hx hb dX6_count_41 rfl (lv_at hl 1 rfl) ?_
    refine fg6 (v := .int (J zM 6)) hx hb ht hown hK hw (zs_m hz) rfl 6 wf6_89 (by decide) (nh_vi rfl) dX6_count_42 ?_
    refine nh_iret hx hb hr rfl hlocks hw (Nat.zero_le _) (Nat.zero_le _) dX6_count_45 ?_
    simp only [zf_count, if_neg c3_0, if_pos c3_1]
    exact im_fin rfl rfl
  by_cases c3_2 : a = 2
  · refine lv_tableIn (tgt := 46) hx hb dX6_count_3 (by rw [c3_2]; decide) (by rw [c3_2]; decide) (by rw [c3_2]; rfl) (by decide) ?_
    refine lv_aload_n hx hb dX6_count_46 rfl (lv_at hl 1 rfl) ?_
    refine fg6 (v := .int (J zM 13)) hx hb ht hown hK hw (zs_m hz) rfl 13 wf6_92 (by decide) (nh_vi rfl) dX6_count_47 ?_
    refine nh_iret hx hb hr rfl hlocks hw (Nat.zero_le _) (Nat.zero_le _) dX6_count_50 ?_
    simp only [zf_count, if_neg c3_0, if_neg c3_1, if_pos c3_2]
    exact im_fin rfl rfl
  by_cases c3_3 : a = 3
  · refine lv_tableIn (tgt := 51) hx hb dX6_count_3 (by rw [c3_3]; decide) (by rw [c3_3]; decide) (by rw [c3_3]; rfl) (by decide) ?_
    refine lv_aload_n hx hb dX6_count_51 rfl (lv_at hl 1 rfl) ?_
    refine fg6 (v := .int (J zM 17)) hx hb ht hown hK hw (zs_m hz) rfl 17 wf6_86 (by decide) (nh_vi rfl) dX6_count_52 ?_
    refine nh_iret hx hb hr rfl hlocks hw (Nat.zero_le _) (Nat.zero_le _) dX6_count_55 ?_
    simp only [zf_count, if_neg c3_0, if_neg c3_1, if_neg c3_2, if_pos c3_3]
    exact im_fin rfl rfl
  by_cases c3_4 : a = 4
  · refine lv_tableIn (tgt := 56) hx hb dX6_count_3 (by rw [c3_4]; decide) (by rw [c3_4]; decide) (by rw [c3_4]; rfl) (by decide) ?_
    simp only [zf_count, if_neg c3_0, if_neg c3_1, if_neg c3_2, if_neg c3_3, if_pos c3_4]
    exact loop hc 0  ls _ _ hw (by omega) (by rw [nI_0]; exact lv_sub hl [1, 2, 0] rfl)
  · refine lv_tableOut (tgt := 72) hx hb dX6_count_3 (by have h0 := lv_neT c3_0 (show ((0 : Int32)).toInt = 0 from rfl); have h1 := lv_neT c3_1 (show ((1 : Int32)).toInt = 1 from rfl); have h2 := lv_neT c3_2 (show ((2 : Int32)).toInt = 2 from rfl); have h3 := lv_neT c3_3 (show ((3 : Int32)).toInt = 3 from rfl); have h4 := lv_neT c3_4 (show ((4 : Int32)).toInt = 4 from rfl); omega) (by decide) ?_
    refine lv_bipush (v := (-2)) hx hb dX6_count_72 (by decide) ?_
    refine nh_iret hx hb hr rfl hlocks hw (Nat.zero_le _) (Nat.zero_le _) dX6_count_74 ?_
    simp only [zf_count, if_neg c3_0, if_neg c3_1, if_neg c3_2, if_neg c3_3, if_neg c3_4]
    exact im_fin rfl rfl
def zf_place (J : (nh_N → Nat → Int32))  (a : Int32) (b : Int32) (d : Int32) : Int32 × (nh_N → Nat → Int32) := (if (J (zA 12) a.toNatClampNeg) = 0 then (0, (iu (iu (iu (iu (iu (iu (iu (iu (iu J (zA 5) (J (zA 7) a.toNatClampNeg).toNatClampNeg ((J (zA 5) (J (zA 7) a.toNatClampNeg).toNatClampNeg) + 1)) (zA 10) a.toNatClampNeg ((iu J (zA 5) (J (zA 7) a.toNatClampNeg).toNatClampNeg ((J (zA 5) (J (zA 7) a.toNatClampNeg).toNatClampNeg) + 1)) (zA 5) (J (zA 7) a.toNatClampNeg).toNatClampNeg)) (zA 19) (J zM 18).toNatClampNeg (J zM 17)) (zA 20) (J zM 18).toNatClampNeg a) (zA 21) (J zM 18).toNatClampNeg b) (zA 22) (J zM 18).toNatClampNeg d) zM 18 ((J zM 18) + 1)) (zA 12) a.toNatClampNeg (((iu (iu (iu (iu (iu (iu (iu J (zA 5) (J (zA 7) a.toNatClampNeg).toNatClampNeg ((J (zA 5) (J (zA 7) a.toNatClampNeg).toNatClampNeg) + 1)) (zA 10) a.toNatClampNeg ((iu J (zA 5) (J (zA 7) a.toNatClampNeg).toNatClampNeg ((J (zA 5) (J (zA 7) a.toNatClampNeg).toNatClampNeg) + 1)) (zA 5) (J (zA 7) a.toNatClampNeg).toNatClampNeg)) (zA 19) (J zM 18).toNatClampNeg (J zM 17)) (zA 20) (J zM 18).toNatClampNeg a) (zA 21) (J zM 18).toNatClampNeg b) (zA 22) (J zM 18).toNatClampNeg d) zM 18 ((J zM 18) + 1)) (zA 12) a.toNatClampNeg) + 1)) (zA 8) a.toNatClampNeg (((iu (iu (iu (iu (iu (iu (iu (iu J (zA 5) (J (zA 7) a.toNatClampNeg).toNatClampNeg ((J (zA 5) (J (zA 7) a.toNatClampNeg).toNatClampNeg) + 1)) (zA 10) a.toNatClampNeg ((iu J (zA 5) (J (zA 7) a.toNatClampNeg).toNatClampNeg ((J (zA 5) (J (zA 7) a.toNatClampNeg).toNatClampNeg) + 1)) (zA 5) (J (zA 7) a.toNatClampNeg).toNatClampNeg)) (zA 19) (J zM 18).toNatClampNeg (J zM 17)) (zA 20) (J zM 18).toNatClampNeg a) (zA 21) (J zM 18).toNatClampNeg b) (zA 22) (J zM 18).toNatClampNeg d) zM 18 ((J zM 18) + 1)) (zA 12) a.toNatClampNeg (((iu (iu (iu (iu (iu (iu (iu J (zA 5) (J (zA 7) a.toNatClampNeg).toNatClampNeg ((J (zA 5) (J (zA 7) a.toNatClampNeg).toNatClampNeg) + 1)) (zA 10) a.toNatClampNeg ((iu J (zA 5) (J (zA 7) a.toNatClampNeg).toNatClampNeg ((J (zA 5) (J (zA 7) a.toNatClampNeg).toNatClampNeg) + 1)) (zA 5) (J (zA 7) a.toNatClampNeg).toNatClampNeg)) (zA 19) (J zM 18).toNatClampNeg (J zM 17)) (zA 20) (J zM 18).toNatClampNeg a) (zA 21) (J zM 18).toNatClampNeg b) (zA 22) (J zM 18).toNatClampNeg d) zM 18 ((J zM 18) + 1)) (zA 12) a.toNatClampNeg) + 1)) (zA 8) a.toNatClampNeg) - b))) else (0, (iu (iu (iu (iu (iu (iu (iu J (zA 19) (J zM 18).toNatClampNeg (J zM 17)) (zA 20) (J zM 18).toNatClampNeg a) (zA 21) (J zM 18).toNatClampNeg b) (zA 22) (J zM 18).toNatClampNeg d) zM 18 ((J zM 18) + 1)) (zA 12) a.toNatClampNeg (((iu (iu (iu (iu (iu J (zA 19) (J zM 18).toNatClampNeg (J zM 17)) (zA 20) (J zM 18).toNatClampNeg a) (zA 21) (J zM 18).toNatClampNeg b) (zA 22) (J zM 18).toNatClampNeg d) zM 18 ((J zM 18) + 1)) (zA 12) a.toNatClampNeg) + 1)) (zA 8) a.toNatClampNeg (((iu (iu (iu (iu (iu (iu J (zA 19) (J zM 18).toNatClampNeg (J zM 17)) (zA 20) (J zM 18).toNatClampNeg a) (zA 21) (J zM 18).toNatClampNeg b) (zA 22) (J zM 18).toNatClampNeg d) zM 18 ((J zM 18) + 1)) (zA 12) a.toNatClampNeg (((iu (iu (iu (iu (iu J (zA 19) (J zM 18).toNatClampNeg (J zM 17)) (zA 20) (J zM 18).toNatClampNeg a) (zA 21) (J zM 18).toNatClampNeg b) (zA 22) (J zM 18).toNatClampNeg d) zM 18 ((J zM 18) + 1)) (zA 12) a.toNatClampNeg) + 1)) (zA 8) a.toNatClampNeg) - b))))
set_option maxHeartbeats 4000000 in
set_option maxRecDepth 100000 in
theorem zc_place (l : Launch) (D : va_G) (cA : Nat → ClassId) {S : nh_N → Option nh_C} {g : nh_N → Nat} {J : (nh_N → Nat → Int32)} {R : nh_N → Nat → Option nh_N} (hz : zSh S R) (a : Int32) (b : Int32) (d : Int32) (i : Nat) (hi : a = nI i) (hi2 : i < 200) (k : Nat) (hk : J (zA 7) i = nI k) (hk8 : k < 8) (np : Nat) (hnp : J zM 18 = nI np) (hp9 : np < 9000) (hd : d = 0 ∨ d = 1) : im_M l D cA yX6_place vX6_place 0 0 0 0 [.ref (g zM), .int a, .int b, .int d] S g J R (im_eq none S g (zf_place J a b d).2 R) := by
  refine nh_of (cc := cX6_place) (maxL := 5) (ret := none) (by decide) rfl (Nat.le_of_ble_eq_true rfl) ?_
  intro p e s m below meth c A ls hx hb hr hml hts hown hlocks hin hK hw hl
  have ht : ∀ w ∈ im_ws, w.before _ s = true := fun w h => hts w (List.mem_cons_of_mem _ h)
  have hl : lv_has ls 5 [(0, .ref (g zM)), (1, .int a), (2, .int b), (3, .int d)] := hl
  have hia : vp_in a 200 := ix_of i hi hi2 (by decide)
  have hik : vp_in (J (zA 7) a.toNatClampNeg) 8 := ix_of k (by rw [hi, nI_clamp (by omega)]; exact hk) hk8 (by decide)
  have hip : vp_in (J zM 18) 9000 := ix_of np hnp hp9 (by decide)
  refine lv_aload_n hx hb dX6_place_0 rfl (lv_at hl 0 rfl) ?_
  refine fg6 hx hb ht hown hK hw (zs_m hz) rfl 7 wf6_23 (by decide) (nh_vr rfl (zr7 hz)) dX6_place_1 ?_
  refine lv_iload_n hx hb dX6_place_4 rfl (lv_at hl 1 rfl) ?_
  refine ai_ld hx hb hK hw (zs7 hz) rfl hia dX6_place_5 ?_
  refine lv_istore (lv' := [(4, .int (J (zA 7) a.toNatClampNeg)), (0, .ref (g zM)), (1, .int a), (2, .int b), (3, .int d)]) hx hb dX6_place_6 hl (by decide) rfl (fun ls hl => ?_)
  refine lv_aload_n hx hb dX6_place_8 rfl (lv_at hl 1 rfl) ?_
  refine fg6 hx hb ht hown hK hw (zs_m hz) rfl 12 wf6_38 (by decide) (nh_vr rfl (zr12 hz)) dX6_place_9 ?_
  refine lv_iload_n hx hb dX6_place_12 rfl (lv_at hl 2 rfl) ?_
  refine ai_ld hx hb hK hw (zs12 hz) rfl hia dX6_place_13 ?_
  refine lv_if_ne (tgt := 41) hx hb dX6_place_14 (by decide) (fun c14 => ?_) (fun c14 => ?_)
  · refine lv_aload_n hx hb dX6_place_41 rfl (lv_at hl 1 rfl) ?_
    refine fg6 hx hb ht hown hK hw (zs_m hz) rfl 19 wf6_50 (by decide) (nh_vr rfl (zr19 hz)) dX6_place_42 ?_
    refine lv_aload_n hx hb dX6_place_45 rfl (lv_at hl 1 rfl) ?_
    refine fg6 (v := .int (J zM 18)) hx hb ht hown hK hw (zs_m hz) rfl 18 wf6_95 (by decide) (nh_vi rfl) dX6_place_46 ?_
    refine lv_aload_n hx hb dX6_place_49 rfl (lv_at hl 1 rfl) ?_
    refine fg6 (v := .int (J zM 17)) hx hb ht hown hK hw (zs_m hz) rfl 17 wf6_86 (by decide) (nh_vi rfl) dX6_place_50 ?_
    refine ai_st hx hb hK hw (zs19 hz) rfl hip dX6_place_53 (fun H locs J1 eJ1 hw => ?_)
    refine lv_aload_n hx hb dX6_place_54 rfl (lv_at hl 1 rfl) ?_
    refine fg6 hx hb ht hown hK hw (zs_m hz) rfl 20 wf6_53 (by decide) (nh_vr rfl (zr20 hz)) dX6_place_55 ?_
    refine lv_aload_n hx hb dX6_place_58 rfl (lv_at hl 1 rfl) ?_
    refine fg6 (v := .int (J zM 18)) hx hb ht hown hK hw (zs_m hz) rfl 18 wf6_95 (by decide) (by simp [nh_v, im_sk, iu_e, zM, zA, eJ1]) dX6_place_59 ?_
    refine lv_iload_n hx hb dX6_place_62 rfl (lv_at hl 2 rfl) ?_
    refine ai_st hx hb hK hw (zs20 hz) rfl hip dX6_place_63 (fun H locs J2 eJ2 hw => ?_)
    refine lv_aload_n hx hb dX6_place_64 rfl (lv_at hl 1 rfl) ?_
    refine fg6 hx hb ht hown hK hw (zs_m hz) rfl 21 wf6_56 (by decide) (nh_vr rfl (zr21 hz)) dX6_place_65 ?_
    refine lv_aload_n hx hb dX6_place_68 rfl (lv_at hl 1 rfl) ?_
    refine fg6 (v := .int (J zM 18)) hx hb ht hown hK hw (zs_m hz) rfl 18 wf6_95 (by decide) (by simp [nh_v, im_sk, iu_e, zM, zA, eJ2, eJ1]) dX6_place_69 ?_
    refine lv_iload_n hx hb dX6_place_72 rfl (lv_at hl 3 rfl) ?_
    refine ai_st hx hb hK hw (zs21 hz) rfl hip dX6_place_73 (fun H locs J3 eJ3 hw => ?_)
    refine lv_aload_n hx hb dX6_place_74 rfl (lv_at hl 1 rfl) ?_
    refine fg6 hx hb ht hown hK hw (zs_m hz) rfl 22 wf6_59 (by decide) (nh_vr rfl (zr22 hz)) dX6_place_75 ?_
    refine lv_aload_n hx hb dX6_place_78 rfl (lv_at hl 1 rfl) ?_
    refine fg6 (v := .int (J zM 18)) hx hb ht hown hK hw (zs_m hz) rfl 18 wf6_95 (by decide) (by simp [nh_v, im_sk, iu_e, zM, zA, eJ3, eJ2, eJ1]) dX6_place_79 ?_
    refine lv_iload_n hx hb dX6_place_82 rfl (lv_at hl 4 rfl) ?_
    refine az_st hx hb hK hw (zs22 hz) rfl hip (nb_of hd) dX6_place_83 (fun H locs J4 eJ4 hw => ?_)
    refine lv_aload_n hx hb dX6_place_84 rfl (lv_at hl 1 rfl) ?_
    refine lv_dup hx hb dX6_place_85 rfl ?_
    refine fg6 (v := .int (J zM 18)) hx hb ht hown hK hw (zs_m hz) rfl 18 wf6_95 (by decide) (by simp [nh_v, im_sk, iu_e, zM, zA, eJ4, eJ3, eJ2, eJ1]) dX6_place_86 ?_
    refine lv_iconst (v := 1) hx hb dX6_place_89 (by decide) ?_
    refine lv_iadd hx hb dX6_place_90 ?_
    refine fp6 hx hb ht hown hK hw (zs_m hz) rfl 18 wf6_95 (by decide) rfl rfl rfl rfl dX6_place_91 (fun H locs J5 eJ5 hw => ?_)
    refine lv_aload_n hx hb dX6_place_94 rfl (lv_at hl 1 rfl) ?_
    refine fg6 hx hb ht hown hK hw (zs_m hz) rfl 12 wf6_38 (by decide) (nh_vr rfl (zr12 hz)) dX6_place_95 ?_
    refine lv_iload_n hx hb dX6_place_98 rfl (lv_at hl 2 rfl) ?_
    refine lv_dup2_11 hx hb dX6_place_99 rfl rfl ?_
    refine ai_ld hx hb hK hw (zs12 hz) rfl hia dX6_place_100 ?_
    refine lv_iconst (v := 1) hx hb dX6_place_101 (by decide) ?_
    refine lv_iadd hx hb dX6_place_102 ?_
    refine ai_st hx hb hK hw (zs12 hz) rfl hia dX6_place_103 (fun H locs J6 eJ6 hw => ?_)
    refine lv_aload_n hx hb dX6_place_104 rfl (lv_at hl 1 rfl) ?_
    refine fg6 hx hb ht hown hK hw (zs_m hz) rfl 8 wf6_26 (by decide) (nh_vr rfl (zr8 hz)) dX6_place_105 ?_
    refine lv_iload_n hx hb dX6_place_108 rfl (lv_at hl 2 rfl) ?_
    refine lv_dup2_11 hx hb dX6_place_109 rfl rfl ?_
    refine ai_ld hx hb hK hw (zs8 hz) rfl hia dX6_place_110 ?_
    refine lv_iload_n hx hb dX6_place_111 rfl (lv_at hl 3 rfl) ?_
    refine lv_isub hx hb dX6_place_112 ?_
    refine ai_st hx hb hK hw (zs8 hz) rfl hia dX6_place_113 (fun H locs J7 eJ7 hw => ?_)
    refine nh_vret hx hb hr hlocks hw (Nat.zero_le _) (Nat.zero_le _) dX6_place_114 ?_
    subst eJ7
    subst eJ6
    subst eJ5
    subst eJ4
    subst eJ3
    subst eJ2
    subst eJ1
    simp only [zf_place, if_neg c14]
    exact im_fin rfl rfl
  · refine lv_aload_n hx hb dX6_place_17 rfl (lv_at hl 1 rfl) ?_
    refine fg6 hx hb ht hown hK hw (zs_m hz) rfl 5 wf6_20 (by decide) (nh_vr rfl (zr5 hz)) dX6_place_18 ?_
    refine lv_iload hx hb dX6_place_21 (lv_at hl 0 rfl) ?_
    refine lv_dup2_11 hx hb dX6_place_23 rfl rfl ?_
    refine ai_ld hx hb hK hw (zs5 hz) rfl hik dX6_place_24 ?_
    refine lv_iconst (v := 1) hx hb dX6_place_25 (by decide) ?_
    refine lv_iadd hx hb dX6_place_26 ?_
    refine ai_st hx hb hK hw (zs5 hz) rfl hik dX6_place_27 (fun H locs J8 eJ8 hw => ?_)
    refine lv_aload_n hx hb dX6_place_28 rfl (lv_at hl 1 rfl) ?_
    refine fg6 hx hb ht hown hK hw (zs_m hz) rfl 10 wf6_32 (by decide) (nh_vr rfl (zr10 hz)) dX6_place_29 ?_
    refine lv_iload_n hx hb dX6_place_32 rfl (lv_at hl 2 rfl) ?_
    refine lv_aload_n hx hb dX6_place_33 rfl (lv_at hl 1 rfl) ?_
    refine fg6 hx hb ht hown hK hw (zs_m hz) rfl 5 wf6_20 (by decide) (nh_vr rfl (zr5 hz)) dX6_place_34 ?_
    refine lv_iload hx hb dX6_place_37 (lv_at hl 0 rfl) ?_
    refine ai_ld hx hb hK hw (zs5 hz) rfl hik dX6_place_39 ?_
    refine ai_st hx hb hK hw (zs10 hz) rfl hia dX6_place_40 (fun H locs J9 eJ9 hw => ?_)
    refine lv_aload_n hx hb dX6_place_41 rfl (lv_at hl 1 rfl) ?_
    refine fg6 hx hb ht hown hK hw (zs_m hz) rfl 19 wf6_50 (by decide) (nh_vr rfl (zr19 hz)) dX6_place_42 ?_
    refine lv_aload_n hx hb dX6_place_45 rfl (lv_at hl 1 rfl) ?_
    refine fg6 (v := .int (J zM 18)) hx hb ht hown hK hw (zs_m hz) rfl 18 wf6_95 (by decide) (by simp [nh_v, im_sk, iu_e, zM, zA, eJ9, eJ8]) dX6_place_46 ?_
    refine lv_aload_n hx hb dX6_place_49 rfl (lv_at hl 1 rfl) ?_
    refine fg6 (v := .int (J zM 17)) hx hb ht hown hK hw (zs_m hz) rfl 17 wf6_86 (by decide) (by simp [nh_v, im_sk, iu_e, zM, zA, eJ9, eJ8]) dX6_place_50 ?_
    refine ai_st hx hb hK hw (zs19 hz) rfl hip dX6_place_53 (fun H locs J10 eJ10 hw => ?_)
    refine lv_aload_n hx hb dX6_place_54 rfl (lv_at hl 1 rfl) ?_
    refine fg6 hx hb ht hown hK hw (zs_m hz) rfl 20 wf6_53 (by decide) (nh_vr rfl (zr20 hz)) dX6_place_55 ?_
    refine lv_aload_n hx hb dX6_place_58 rfl (lv_at hl 1 rfl) ?_
    refine fg6 (v := .int (J zM 18)) hx hb ht hown hK hw (zs_m hz) rfl 18 wf6_95 (by decide) (by simp [nh_v, im_sk, iu_e, zM, zA, eJ10, eJ9, eJ8]) dX6_place_59 ?_
    refine lv_iload_n hx hb dX6_place_62 rfl (lv_at hl 2 rfl) ?_
    refine ai_st hx hb hK hw (zs20 hz) rfl hip dX6_place_63 (fun H locs J11 eJ11 hw => ?_)
    refine lv_aload_n hx hb dX6_place_64 rfl (lv_at hl 1 rfl) ?_
    refine fg6 hx hb ht hown hK hw (zs_m hz) rfl 21 wf6_56 (by decide) (nh_vr rfl (zr21 hz)) dX6_place_65 ?_
    refine lv_aload_n hx hb dX6_place_68 rfl (lv_at hl 1 rfl) ?_
    refine fg6 (v := .int (J zM 18)) hx hb ht hown hK hw (zs_m hz) rfl 18 wf6_95 (by decide) (by simp [nh_v, im_sk, iu_e, zM, zA, eJ11, eJ10, eJ9, eJ8]) dX6_place_69 ?_
    refine lv_iload_n hx hb dX6_place_72 rfl (lv_at hl 3 rfl) ?_
    refine ai_st hx hb hK hw (zs21 hz) rfl hip dX6_place_73 (fun H locs J12 eJ12 hw => ?_)
    refine lv_aload_n hx hb dX6_place_74 rfl (lv_at hl 1 rfl) ?_
    refine fg6 hx hb ht hown hK hw (zs_m hz) rfl 22 wf6_59 (by decide) (nh_vr rfl (zr22 hz)) dX6_place_75 ?_
    refine lv_aload_n hx hb dX6_place_78 rfl (lv_at hl 1 rfl) ?_
    refine fg6 (v := .int (J zM 18)) hx hb ht hown hK hw (zs_m hz) rfl 18 wf6_95 (by decide) (by simp [nh_v, im_sk, iu_e, zM, zA, eJ12, eJ11, eJ10, eJ9, eJ8]) dX6_place_79 ?_
    refine lv_iload_n hx hb dX6_place_82 rfl (lv_at hl 4 rfl) ?_
    refine az_st hx hb hK hw (zs22 hz) rfl hip (nb_of hd) dX6_place_83 (fun H locs J13 eJ13 hw => ?_)
    refine lv_aload_n hx hb dX6_place_84 rfl (lv_at hl 1 rfl) ?_
    refine lv_dup hx hb dX6_place_85 rfl ?_
    refine fg6 (v := .int (J zM 18)) hx hb ht hown hK hw (zs_m hz) rfl 18 wf6_95 (by decide) (by simp [nh_v, im_sk, iu_e, zM, zA, eJ13, eJ12, eJ11, eJ10, eJ9, eJ8]) dX6_place_86 ?_
    refine lv_iconst (v := 1) hx hb dX6_place_89 (by decide) ?_
    refine lv_iadd hx hb dX6_place_90 ?_
    refine fp6 hx hb ht hown hK hw (zs_m hz) rfl 18 wf6_95 (by decide) rfl rfl rfl rfl dX6_place_91 (fun H locs J14 eJ14 hw => ?_)
    refine lv_aload_n hx hb dX6_place_94 rfl (lv_at hl 1 rfl) ?_
    refine fg6 hx hb ht hown hK hw (zs_m hz) rfl 12 wf6_38 (by decide) (nh_vr rfl (zr12 hz)) dX6_place_95 ?_
    refine lv_iload_n hx hb dX6_place_98 rfl (lv_at hl 2 rfl) ?_
    refine lv_dup2_11 hx hb dX6_place_99 rfl rfl ?_
    refine ai_ld hx hb hK hw (zs12 hz) rfl hia dX6_place_100 ?_
    refine lv_iconst (v := 1) hx hb dX6_place_101 (by decide) ?_
    refine lv_iadd hx hb dX6_place_102 ?_
    refine ai_st hx hb hK hw (zs12 hz) rfl hia dX6_place_103 (fun H locs J15 eJ15 hw => ?_)
    refine lv_aload_n hx hb dX6_place_104 rfl (lv_at hl 1 rfl) ?_
    refine fg6 hx hb ht hown hK hw (zs_m hz) rfl 8 wf6_26 (by decide) (nh_vr rfl (zr8 hz)) dX6_place_105 ?_
    refine lv_iload_n hx hb dX6_place_108 rfl (lv_at hl 2 rfl) ?_
    refine lv_dup2_11 hx hb dX6_place_109 rfl rfl ?_
    refine ai_ld hx hb hK hw (zs8 hz) rfl hia dX6_place_110 ?_
    refine lv_iload_n hx hb dX6_place_111 rfl (lv_at hl 3 rfl) ?_
    refine lv_isub hx hb dX6_place_112 ?_
    refine ai_st hx hb hK hw (zs8 hz) rfl hia dX6_place_113 (fun H locs J16 eJ16 hw => ?_)
    refine nh_vret hx hb hr hlocks hw (Nat.zero_le _) (Nat.zero_le _) dX6_place_114 ?_
    subst eJ16
    subst eJ15
    subst eJ14
    subst eJ13
    subst eJ12
    subst eJ11
    subst eJ10
    subst eJ9
    subst eJ8
    simp only [zf_place, if_pos c14]
    exact im_fin rfl rfl
def zf_go2 (J : (nh_N → Nat → Int32))  (a : Int32) (x2 : Int32) (x3 : Int32) (x4 : Int32) : Int32 × (nh_N → Nat → Int32) := (if x4 < (J (zA 8) a.toNatClampNeg) then (if (J (zA 3) x2.toNatClampNeg) ≤ 0 then (if x3 = 0 then (0, (zf_place J a (J (zA 8) a.toNatClampNeg) 1).2) else (0, (iu J (zA 27) x2.toNatClampNeg 1))) else (if x4 < (J (zA 3) x2.toNatClampNeg) then (if x3 = 0 then (0, (zf_place J a (J (zA 8) a.toNatClampNeg) 1).2) else (0, (iu J (zA 27) x2.toNatClampNeg 1))) else (if ((J (zA 8) a.toNatClampNeg) - x4) < (J (zA 3) x2.toNatClampNeg) then (if x3 = 0 then (0, (zf_place J a (J (zA 8) a.toNatClampNeg) 1).2) else (0, (iu J (zA 27) x2.toNatClampNeg 1))) else (0, (iu (zf_place J a x4 0).2 (zA 27) x2.toNatClampNeg 1))))) else (0, (zf_place J a (J (zA 8) a.toNatClampNeg) 0).2))
set_option maxHeartbeats 4000000 in
set_option maxRecDepth 100000 in
theorem zw_go2 {p : Program} {l : Launch} {e : Env} {s : State} {m : MethodId} {below : List Frame} {meth : Method} {c : Code} {A : Nat → Prop} {ls : Array Slot} {H : Heap} {locs : List Loc} {D : va_G} {cA : Nat → ClassId} {S : nh_N → Option nh_C} {g : nh_N → Nat} {J : (nh_N → Nat → Int32)} {R : nh_N → Nat → Option nh_N} {av : Array Value} (hx : p.tables.exec = Jvm.exec) (hb : c.code = cX6_go) (hr : meth.sig.returnType = none) (hml : c.maxLocals = 6) (ht : ∀ w ∈ im_ws, w.before av s = true) (hown : s.vm.findClass qR6 = some m.cls) (hlocks : meth.locks = false) (hK : im_K D cA s) (hz : zSh S R) (hw : nh_S D im_cl im_sk cA A s.heap S g J R H locs) (a : Int32) (x2 : Int32) (x3 : Int32) (x4 : Int32) (hl : lv_has ls 6 [(0, .ref (g zM)), (1, .int a), (2, .int x2), (3, .int x3), (4, .int x4)]) (i : Nat) (hi : a = nI i) (hi2 : i < 200) (k : Nat) (hk : J (zA 7) i = nI k) (hk8 : k < 8) (hx2 : x2 = nI k) (np : Nat) (hnp : J zM 18 = nI np) (hp9 : np < 9000) : W p l e { frames := 1, cells := 0, slots := 0, locals := 24 } s m av below meth c H locs 0 0 (MQ below (nh_Q D im_cl im_sk cA A (im_eq none S g (zf_go2 J a x2 x3 x4).2 R)) av s 0 0 A) (F0 m 111 ls []) := by
  have hia : vp_in a 200 := ix_of i hi hi2 (by decide)
  have hik : vp_in x2 8 := ix_of k hx2 hk8 (by decide)
  refine lv_aload_n hx hb dX6_go_111 rfl (lv_at hl 0 rfl) ?_
  refine fg6 hx hb ht hown hK hw (zs_m hz) rfl 8 wf6_26 (by decide) (nh_vr rfl (zr8 hz)) dX6_go_112 ?_
  refine lv_iload_n hx hb dX6_go_115 rfl (lv_at hl 1 rfl) ?_
  refine ai_ld hx hb hK hw (zs8 hz) rfl hia dX6_go_116 ?_
  refine lv_iload hx hb dX6_go_117 (lv_at hl 4 rfl) ?_
  refine lv_icmp_gt (tgt := 137) hx hb dX6_go_119 (by decide) (fun c119 => ?_) (fun c119 => ?_)
  · refine lv_aload_n hx hb dX6_go_137 rfl (lv_at hl 0 rfl) ?_
    refine fg6 hx hb ht hown hK hw (zs_m hz) rfl 3 wf6_13 (by decide) (nh_vr rfl (zr3 hz)) dX6_go_138 ?_
    refine lv_iload_n hx hb dX6_go_141 rfl (lv_at hl 2 rfl) ?_
    refine ai_ld hx hb hK hw (zs3 hz) rfl hik dX6_go_142 ?_
    refine lv_if_le (tgt := 193) hx hb dX6_go_143 (by decide) (fun c143 => ?_) (fun c143 => ?_)
    · refine lv_iload_n hx hb dX6_go_193 rfl (lv_at hl 3 rfl) ?_
      refine lv_if_ne (tgt := 212) hx hb dX6_go_194 (by decide) (fun c194 => ?_) (fun c194 => ?_)
      · refine lv_aload_n hx hb dX6_go_212 rfl (lv_at hl 0 rfl) ?_
        refine fg6 hx hb ht hown hK hw (zs_m hz) rfl 27 wf6_68 (by decide) (nh_vr rfl (zr27 hz)) dX6_go_213 ?_
        refine lv_iload_n hx hb dX6_go_216 rfl (lv_at hl 2 rfl) ?_
        refine lv_iconst (v := 1) hx hb dX6_go_217 (by decide) ?_
        refine az_st hx hb hK hw (zs27 hz) rfl hik rfl dX6_go_218 (fun H locs J1 eJ1 hw => ?_)
        refine nh_vret hx hb hr hlocks hw (Nat.zero_le _) (Nat.zero_le _) dX6_go_219 ?_
        subst eJ1
        simp only [zf_go2, if_pos c119, if_pos c143, if_neg c194]
        exact im_fin rfl rfl
      · refine lv_aload_n hx hb dX6_go_197 rfl (lv_at hl 0 rfl) ?_
        refine lv_iload_n hx hb dX6_go_198 rfl (lv_at hl 1 rfl) ?_
        refine lv_aload_n hx hb dX6_go_199 rfl (lv_at hl 0 rfl) ?_
        refine fg6 hx hb ht hown hK hw (zs_m hz) rfl 8 wf6_26 (by decide) (nh_vr rfl (zr8 hz)) dX6_go_200 ?_
        refine lv_iload_n hx hb dX6_go_203 rfl (lv_at hl 1 rfl) ?_
        refine ai_ld hx hb hK hw (zs8 hz) rfl hia dX6_go_204 ?_
        refine lv_iconst (v := 1) hx hb dX6_go_205 (by decide) ?_
        refine kcX6_place (As := [.int a, .int (J (zA 8) a.toNatClampNeg), .int 1]) (rest := []) wm6_105 (zc_place l D cA hz a (J (zA 8) a.toNatClampNeg) 1 i hi hi2 k hk hk8 np hnp hp9 (by simp)) hx hb hml ht hown hK hw (zs_m hz) rfl rfl hl.1 rfl (by simp [Value.category]) ⟨by decide, by decide⟩ ⟨by simp, by simp⟩ dX6_go_206 (fun v S1 g1 J2 R1 H locs hp hw => ?_)
        obtain ⟨rfl, h1, h2, eJ2, h4⟩ := hp
        rw [h1, h2, h4] at hw
        clear h1 h2 h4
        show W _ _ _ _ _ _ _ _ _ _ _ _ _ _ _ (F0 m 209 ls [])
        refine lv_goto (tgt := 219) hx hb dX6_go_209 (by decide) ?_
        refine nh_vret hx hb hr hlocks hw (Nat.zero_le _) (Nat.zero_le _) dX6_go_219 ?_
        subst eJ2
        simp only [zf_go2, if_pos c119, if_pos c143, if_pos c194]
        exact im_fin rfl rfl
    · refine lv_iload hx hb dX6_go_146 (lv_at hl 4 rfl) ?_
      refine lv_aload_n hx hb dX6_go_148 rfl (lv_at hl 0 rfl) ?_
      refine fg6 hx hb ht hown hK hw (zs_m hz) rfl 3 wf6_13 (by decide) (nh_vr rfl (zr3 hz)) dX6_go_149 ?_
      refine lv_iload_n hx hb dX6_go_152 rfl (lv_at hl 2 rfl) ?_
      refine ai_ld hx hb hK hw (zs3 hz) rfl hik dX6_go_153 ?_
      refine lv_icmp_lt (tgt := 193) hx hb dX6_go_154 (by decide) (fun c154 => ?_) (fun c154 => ?_)
      · refine lv_iload_n hx hb dX6_go_193 rfl (lv_at hl 3 rfl) ?_
        refine lv_if_ne (tgt := 212) hx hb dX6_go_194 (by decide) (fun c194 => ?_) (fun c194 => ?_)
        · refine lv_aload_n hx hb dX6_go_212 rfl (lv_at hl 0 rfl) ?_
          refine fg6 hx hb ht hown hK hw (zs_m hz) rfl 27 wf6_68 (by decide) (nh_vr rfl (zr27 hz)) dX6_go_213 ?_
          refine lv_iload_n hx hb dX6_go_216 rfl (lv_at hl 2 rfl) ?_
          refine lv_iconst (v := 1) hx hb dX6_go_217 (by decide) ?_
          refine az_st hx hb hK hw (zs27 hz) rfl hik rfl dX6_go_218 (fun H locs J3 eJ3 hw => ?_)
          refine nh_vret hx hb hr hlocks hw (Nat.zero_le _) (Nat.zero_le _) dX6_go_219 ?_
          subst eJ3
          simp only [zf_go2, if_pos c119, if_neg c143, if_pos c154, if_neg c194]
          exact im_fin rfl rfl
        · refine lv_aload_n hx hb dX6_go_197 rfl (lv_at hl 0 rfl) ?_
          refine lv_iload_n hx hb dX6_go_198 rfl (lv_at hl 1 rfl) ?_
          refine lv_aload_n hx hb dX6_go_199 rfl (lv_at hl 0 rfl) ?_
          refine fg6 hx hb ht hown hK hw (zs_m hz) rfl 8 wf6_26 (by decide) (nh_vr rfl (zr8 hz)) dX6_go_200 ?_
          refine lv_iload_n hx hb dX6_go_203 rfl (lv_at hl 1 rfl) ?_
          refine ai_ld hx hb hK hw (zs8 hz) rfl hia dX6_go_204 ?_
          refine lv_iconst (v := 1) hx hb dX6_go_205 (by decide) ?_
          refine kcX6_place (As := [.int a, .int (J (zA 8) a.toNatClampNeg), .int 1]) (rest := []) wm6_105 (zc_place l D cA hz a (J (zA 8) a.toNatClampNeg) 1 i hi hi2 k hk hk8 np hnp hp9 (by simp)) hx hb hml ht hown hK hw (zs_m hz) rfl rfl hl.1 rfl (by simp [Value.category]) ⟨by decide, by decide⟩ ⟨by simp, by simp⟩ dX6_go_206 (fun v S1 g1 J4 R1 H locs hp hw => ?_)
          obtain ⟨rfl, h1, h2, eJ4, h4⟩ := hp
          rw [h1, h2, h4] at hw
          clear h1 h2 h4
          show W _ _ _ _ _ _ _ _ _ _ _ _ _ _ _ (F0 m 209 ls [])
          refine lv_goto (tgt := 219) hx hb dX6_go_209 (by decide) ?_
          refine nh_vret hx hb hr hlocks hw (Nat.zero_le _) (Nat.zero_le _) dX6_go_219 ?_
          subst eJ4
          simp only [zf_go2, if_pos c119, if_neg c143, if_pos c154, if_pos c194]
          exact im_fin rfl rfl
      · refine lv_aload_n hx hb dX6_go_157 rfl (lv_at hl 0 rfl) ?_
        refine fg6 hx hb ht hown hK hw (zs_m hz) rfl 8 wf6_26 (by decide) (nh_vr rfl (zr8 hz)) dX6_go_158 ?_
        refine lv_iload_n hx hb dX6_go_161 rfl (lv_at hl 1 rfl) ?_
        refine ai_ld hx hb hK hw (zs8 hz) rfl hia dX6_go_162 ?_
        refine lv_iload hx hb dX6_go_163 (lv_at hl 4 rfl) ?_
        refine lv_isub hx hb dX6_go_165 ?_
        refine lv_aload_n hx hb dX6_go_166 rfl (lv_at hl 0 rfl) ?_
        refine fg6 hx hb ht hown hK hw (zs_m hz) rfl 3 wf6_13 (by decide) (nh_vr rfl (zr3 hz)) dX6_go_167 ?_
        refine lv_iload_n hx hb dX6_go_170 rfl (lv_at hl 2 rfl) ?_
        refine ai_ld hx hb hK hw (zs3 hz) rfl hik dX6_go_171 ?_
        refine lv_icmp_lt (tgt := 193) hx hb dX6_go_172 (by decide) (fun c172 => ?_) (fun c172 => ?_)
        · refine lv_iload_n hx hb dX6_go_193 rfl (lv_at hl 3 rfl) ?_
          refine lv_if_ne (tgt := 212) hx hb dX6_go_194 (by decide) (fun c194 => ?_) (fun c194 => ?_)
          · refine lv_aload_n hx hb dX6_go_212 rfl (lv_at hl 0 rfl) ?_
            refine fg6 hx hb ht hown hK hw (zs_m hz) rfl 27 wf6_68 (by decide) (nh_vr rfl (zr27 hz)) dX6_go_213 ?_
            refine lv_iload_n hx hb dX6_go_216 rfl (lv_at hl 2 rfl) ?_
            refine lv_iconst (v := 1) hx hb dX6_go_217 (by decide) ?_
            refine az_st hx hb hK hw (zs27 hz) rfl hik rfl dX6_go_218 (fun H locs J5 eJ5 hw => ?_)
            refine nh_vret hx hb hr hlocks hw (Nat.zero_le _) (Nat.zero_le _) dX6_go_219 ?_
            subst eJ5
            simp only [zf_go2, if_pos c119, if_neg c143, if_neg c154, if_pos c172, if_neg c194]
            exact im_fin rfl rfl
          · refine lv_aload_n hx hb dX6_go_197 rfl (lv_at hl 0 rfl) ?_
            refine lv_iload_n hx hb dX6_go_198 rfl (lv_at hl 1 rfl) ?_
            refine lv_aload_n hx hb dX6_go_199 rfl (lv_at hl 0 rfl) ?_
            refine fg6 hx hb ht hown hK hw (zs_m hz) rfl 8 wf6_26 (by decide) (nh_vr rfl (zr8 hz)) dX6_go_200 ?_
            refine lv_iload_n hx hb dX6_go_203 rfl (lv_at hl 1 rfl) ?_
            refine ai_ld hx hb hK hw (zs8 hz) rfl hia dX6_go_204 ?_
            refine lv_iconst (v := 1) hx hb dX6_go_205 (by decide) ?_
            refine kcX6_place (As := [.int a, .int (J (zA 8) a.toNatClampNeg), .int 1]) (rest := []) wm6_105 (zc_place l D cA hz a (J (zA 8) a.toNatClampNeg) 1 i hi hi2 k hk hk8 np hnp hp9 (by simp)) hx hb hml ht hown hK hw (zs_m hz) rfl rfl hl.1 rfl (by simp [Value.category]) ⟨by decide, by decide⟩ ⟨by simp, by simp⟩ dX6_go_206 (fun v S1 g1 J6 R1 H locs hp hw => ?_)
            obtain ⟨rfl, h1, h2, eJ6, h4⟩ := hp
            rw [h1, h2, h4] at hw
            clear h1 h2 h4
            show W _ _ _ _ _ _ _ _ _ _ _ _ _ _ _ (F0 m 209 ls [])
            refine lv_goto (tgt := 219) hx hb dX6_go_209 (by decide) ?_
            refine nh_vret hx hb hr hlocks hw (Nat.zero_le _) (Nat.zero_le _) dX6_go_219 ?_
            subst eJ6
            simp only [zf_go2, if_pos c119, if_neg c143, if_neg c154, if_pos c172, if_pos c194]
            exact im_fin rfl rfl
        · refine lv_aload_n hx hb dX6_go_175 rfl (lv_at hl 0 rfl) ?_
          refine lv_iload_n hx hb dX6_go_176 rfl (lv_at hl 1 rfl) ?_
          refine lv_iload hx hb dX6_go_177 (lv_at hl 4 rfl) ?_
          refine lv_iconst (v := 0) hx hb dX6_go_179 (by decide) ?_
          refine kcX6_place (As := [.int a, .int x4, .int 0]) (rest := []) wm6_105 (zc_place l D cA hz a x4 0 i hi hi2 k hk hk8 np hnp hp9 (by simp)) hx hb hml ht hown hK hw (zs_m hz) rfl rfl hl.1 rfl (by simp [Value.category]) ⟨by decide, by decide⟩ ⟨by simp, by simp⟩ dX6_go_180 (fun v S1 g1 J7 R1 H locs hp hw => ?_)
          obtain ⟨rfl, h1, h2, eJ7, h4⟩ := hp
          rw [h1, h2, h4] at hw
          clear h1 h2 h4
          show W _ _ _ _ _ _ _ _ _ _ _ _ _ _ _ (F0 m 183 ls [])
          refine lv_aload_n hx hb dX6_go_183 rfl (lv_at hl 0 rfl) ?_
          refine fg6 hx hb ht hown hK hw (zs_m hz) rfl 27 wf6_68 (by decide) (nh_vr rfl (zr27 hz)) dX6_go_184 ?_
          refine lv_iload_n hx hb dX6_go_187 rfl (lv_at hl 2 rfl) ?_
          refine lv_iconst (v := 1) hx hb dX6_go_188 (by decide) ?_
          refine az_st hx hb hK hw (zs27 hz) rfl hik rfl dX6_go_189 (fun H locs J8 eJ8 hw => ?_)
          refine lv_goto (tgt := 219) hx hb dX6_go_190 (by decide) ?_
          refine nh_vret hx hb hr hlocks hw (Nat.zero_le _) (Nat.zero_le _) dX6_go_219 ?_
          subst eJ8
          subst eJ7
          simp only [zf_go2, if_pos c119, if_neg c143, if_neg c154, if_neg c172]
          exact im_fin rfl rfl
  · refine lv_aload_n hx hb dX6_go_122 rfl (lv_at hl 0 rfl) ?_
    refine lv_iload_n hx hb dX6_go_123 rfl (lv_at hl 1 rfl) ?_
    refine lv_aload_n hx hb dX6_go_124 rfl (lv_at hl 0 rfl) ?_
    refine fg6 hx hb ht hown hK hw (zs_m hz) rfl 8 wf6_26 (by decide) (nh_vr rfl (zr8 hz)) dX6_go_125 ?_
    refine lv_iload_n hx hb dX6_go_128 rfl (lv_at hl 1 rfl) ?_
    refine ai_ld hx hb hK hw (zs8 hz) rfl hia dX6_go_129 ?_
    refine lv_iconst (v := 0) hx hb dX6_go_130 (by decide) ?_
    refine kcX6_place (As := [.int a, .int (J (zA 8) a.toNatClampNeg), .int 0]) (rest := []) wm6_105 (zc_place l D cA hz a (J (zA 8) a.toNatClampNeg) 0 i hi hi2 k hk hk8 np hnp hp9 (by simp)) hx hb hml ht hown hK hw (zs_m hz) rfl rfl hl.1 rfl (by simp [Value.category]) ⟨by decide, by decide⟩ ⟨by simp, by simp⟩ dX6_go_131 (fun v S1 g1 J9 R1 H locs hp hw => ?_)
    obtain ⟨rfl, h1, h2, eJ9, h4⟩ := hp
    rw [h1, h2, h4] at hw
    clear h1 h2 h4
    show W _ _ _ _ _ _ _ _ _ _ _ _ _ _ _ (F0 m 134 ls [])
    refine lv_goto (tgt := 219) hx hb dX6_go_134 (by decide) ?_
    refine nh_vret hx hb hr hlocks hw (Nat.zero_le _) (Nat.zero_le _) dX6_go_219 ?_
    subst eJ9
    simp only [zf_go2, if_neg c119]
    exact im_fin rfl rfl
def zf_go (J : (nh_N → Nat → Int32)) (np : Nat) (a : Int32) : Int32 × (nh_N → Nat → Int32) := (if ((iu (iu J (zA 26) (J zM 25).toNatClampNeg a) zM 25 ((J zM 25) + 1)) (zA 27) ((iu (iu J (zA 26) (J zM 25).toNatClampNeg a) zM 25 ((J zM 25) + 1)) (zA 7) a.toNatClampNeg).toNatClampNeg) = 0 then (if ((iu (iu J (zA 26) (J zM 25).toNatClampNeg a) zM 25 ((J zM 25) + 1)) (zA 2) ((iu (iu J (zA 26) (J zM 25).toNatClampNeg a) zM 25 ((J zM 25) + 1)) (zA 7) a.toNatClampNeg).toNatClampNeg) < 0 then (if 0 ≤ ((J zM 0) - (zf_standing (iu (iu J (zA 26) (J zM 25).toNatClampNeg a) zM 25 ((J zM 25) + 1)) np (J zM 17) (-1))) then zf_go2 (iu (iu J (zA 26) (J zM 25).toNatClampNeg a) zM 25 ((J zM 25) + 1)) a ((iu (iu J (zA 26) (J zM 25).toNatClampNeg a) zM 25 ((J zM 25) + 1)) (zA 7) a.toNatClampNeg) (zf_standing (iu (iu J (zA 26) (J zM 25).toNatClampNeg a) zM 25 ((J zM 25) + 1)) np (J zM 17) (-1)) ((J zM 0) - (zf_standing (iu (iu J (zA 26) (J zM 25).toNatClampNeg a) zM 25 ((J zM 25) + 1)) np (J zM 17) (-1))) else zf_go2 (iu (iu J (zA 26) (J zM 25).toNatClampNeg a) zM 25 ((J zM 25) + 1)) a ((iu (iu J (zA 26) (J zM 25).toNatClampNeg a) zM 25 ((J zM 25) + 1)) (zA 7) a.toNatClampNeg) (zf_standing (iu (iu J (zA 26) (J zM 25).toNatClampNeg a) zM 25 ((J zM 25) + 1)) np (J zM 17) (-1)) 0) else (if ((J zM 0) - (zf_standing (iu (iu J (zA 26) (J zM 25).toNatClampNeg a) zM 25 ((J zM 25) + 1)) np (J zM 17) (-1))) ≤ (((iu (iu J (zA 26) (J zM 25).toNatClampNeg a) zM 25 ((J zM 25) + 1)) (zA 2) ((iu (iu J (zA 26) (J zM 25).toNatClampNeg a) zM 25 ((J zM 25) + 1)) (zA 7) a.toNatClampNeg).toNatClampNeg) - (zf_standing (iu (iu J (zA 26) (J zM 25).toNatClampNeg a) zM 25 ((J zM 25) + 1)) np (J zM 17) ((iu (iu J (zA 26) (J zM 25).toNatClampNeg a) zM 25 ((J zM 25) + 1)) (zA 7) a.toNatClampNeg))) then (if 0 ≤ ((J zM 0) - (zf_standing (iu (iu J (zA 26) (J zM 25).toNatClampNeg a) zM 25 ((J zM 25) + 1)) np (J zM 17) (-1))) then zf_go2 (iu (iu J (zA 26) (J zM 25).toNatClampNeg a) zM 25 ((J zM 25) + 1)) a ((iu (iu J (zA 26) (J zM 25).toNatClampNeg a) zM 25 ((J zM 25) + 1)) (zA 7) a.toNatClampNeg) (zf_standing (iu (iu J (zA 26) (J zM 25).toNatClampNeg a) zM 25 ((J zM 25) + 1)) np (J zM 17) (-1)) ((J zM 0) - (zf_standing (iu (iu J (zA 26) (J zM 25).toNatClampNeg a) zM 25 ((J zM 25) + 1)) np (J zM 17) (-1))) else zf_go2 (iu (iu J (zA 26) (J zM 25).toNatClampNeg a) zM 25 ((J zM 25) + 1)) a ((iu (iu J (zA 26) (J zM 25).toNatClampNeg a) zM 25 ((J zM 25) + 1)) (zA 7) a.toNatClampNeg) (zf_standing (iu (iu J (zA 26) (J zM 25).toNatClampNeg a) zM 25 ((J zM 25) + 1)) np (J zM 17) (-1)) 0) else (if 0 ≤ (((iu (iu J (zA 26) (J zM 25).toNatClampNeg a) zM 25 ((J zM 25) + 1)) (zA 2) ((iu (iu J (zA 26) (J zM 25).toNatClampNeg a) zM 25 ((J zM 25) + 1)) (zA 7) a.toNatClampNeg).toNatClampNeg) - (zf_standing (iu (iu J (zA 26) (J zM 25).toNatClampNeg a) zM 25 ((J zM 25) + 1)) np (J zM 17) ((iu (iu J (zA 26) (J zM 25).toNatClampNeg a) zM 25 ((J zM 25) + 1)) (zA 7) a.toNatClampNeg))) then zf_go2 (iu (iu J (zA 26) (J zM 25).toNatClampNeg a) zM 25 ((J zM 25) + 1)) a ((iu (iu J (zA 26) (J zM 25).toNatClampNeg a) zM 25 ((J zM 25) + 1)) (zA 7) a.toNatClampNeg) (zf_standing (iu (iu J (zA 26) (J zM 25).toNatClampNeg a) zM 25 ((J zM 25) + 1)) np (J zM 17) (-1)) (((iu (iu J (zA 26) (J zM 25).toNatClampNeg a) zM 25 ((J zM 25) + 1)) (zA 2) ((iu (iu J (zA 26) (J zM 25).toNatClampNeg a) zM 25 ((J zM 25) + 1)) (zA 7) a.toNatClampNeg).toNatClampNeg) - (zf_standing (iu (iu J (zA 26) (J zM 25).toNatClampNeg a) zM 25 ((J zM 25) + 1)) np (J zM 17) ((iu (iu J (zA 26) (J zM 25).toNatClampNeg a) zM 25 ((J zM 25) + 1)) (zA 7) a.toNatClampNeg))) else zf_go2 (iu (iu J (zA 26) (J zM 25).toNatClampNeg a) zM 25 ((J zM 25) + 1)) a ((iu (iu J (zA 26) (J zM 25).toNatClampNeg a) zM 25 ((J zM 25) + 1)) (zA 7) a.toNatClampNeg) (zf_standing (iu (iu J (zA 26) (J zM 25).toNatClampNeg a) zM 25 ((J zM 25) + 1)) np (J zM 17) (-1)) 0))) else (0, (iu (iu J (zA 26) (J zM 25).toNatClampNeg a) zM 25 ((J zM 25) + 1))))
set_option maxHeartbeats 4000000 in
set_option maxRecDepth 100000 in
theorem zc_go (l : Launch) (D : va_G) (cA : Nat → ClassId) {S : nh_N → Option nh_C} {g : nh_N → Nat} {J : (nh_N → Nat → Int32)} {R : nh_N → Nat → Option nh_N} (hz : zSh S R) (a : Int32) (i : Nat) (hi : a = nI i) (hi2 : i < 200) (k : Nat) (hk : J (zA 7) i = nI k) (hk8 : k < 8) (np : Nat) (hnp : J zM 18 = nI np) (hp9 : np < 9000) (hpi : ∀ q, q < np → ∃ i, i < 200 ∧ J (zA 20) q = nI i) (nw : Nat) (hnw : J zM 25 = nI nw) (hw2 : nw < 200) : im_M l D cA yX6_go vX6_go 1 24 0 0 [.ref (g zM), .int a] S g J R (im_eq none S g (zf_go J np a).2 R) := by
  refine nh_of (cc := cX6_go) (maxL := 6) (ret := none) (by decide) rfl (Nat.le_of_ble_eq_true rfl) ?_
  intro p e s m below meth c A ls hx hb hr hml hts hown hlocks hin hK hw hl
  have ht : ∀ w ∈ im_ws, w.before _ s = true := fun w h => hts w (List.mem_cons_of_mem _ h)
  have hl : lv_has ls 6 [(0, .ref (g zM)), (1, .int a)] := hl
  have hia : vp_in a 200 := ix_of i hi hi2 (by decide)
  have hiw : vp_in (J zM 25) 200 := ix_of nw hnw hw2 (by decide)
  have hac : a.toNatClampNeg = i := by rw [hi]; exact nI_clamp (by omega)
  refine lv_aload_n hx hb dX6_go_0 rfl (lv_at hl 0 rfl) ?_
  refine fg6 hx hb ht hown hK hw (zs_m hz) rfl 26 wf6_65 (by decide) (nh_vr rfl (zr26 hz)) dX6_go_1 ?_
  refine lv_aload_n hx hb dX6_go_4 rfl (lv_at hl 0 rfl) ?_
  refine fg6 (v := .int (J zM 25)) hx hb ht hown hK hw (zs_m hz) rfl 25 wf6_98 (by decide) (nh_vi rfl) dX6_go_5 ?_
  refine lv_iload_n hx hb dX6_go_8 rfl (lv_at hl 1 rfl) ?_
  refine ai_st hx hb hK hw (zs26 hz) rfl hiw dX6_go_9 (fun H locs J1 eJ1 hw => ?_)
  refine lv_aload_n hx hb dX6_go_10 rfl (lv_at hl 0 rfl) ?_
  refine lv_dup hx hb dX6_go_11 rfl ?_
  refine fg6 (v := .int (J zM 25)) hx hb ht hown hK hw (zs_m hz) rfl 25 wf6_98 (by decide) (by simp [nh_v, im_sk, iu_e, zM, zA, eJ1]) dX6_go_12 ?_
  refine lv_iconst (v := 1) hx hb dX6_go_15 (by decide) ?_
  refine lv_iadd hx hb dX6_go_16 ?_
  refine fp6 hx hb ht hown hK hw (zs_m hz) rfl 25 wf6_98 (by decide) rfl rfl rfl rfl dX6_go_17 (fun H locs J2 eJ2 hw => ?_)
  refine lv_aload_n hx hb dX6_go_20 rfl (lv_at hl 0 rfl) ?_
  refine fg6 hx hb ht hown hK hw (zs_m hz) rfl 7 wf6_23 (by decide) (nh_vr rfl (zr7 hz)) dX6_go_21 ?_
  refine lv_iload_n hx hb dX6_go_24 rfl (lv_at hl 1 rfl) ?_
  refine ai_ld hx hb hK hw (zs7 hz) rfl hia dX6_go_25 ?_
  refine lv_istore_n (lv' := [(2, .int (J2 (zA 7) a.toNatClampNeg)), (0, .ref (g zM)), (1, .int a)]) hx hb dX6_go_26 rfl hl (by decide) rfl (fun ls hl => ?_)
  have ek : (J2 (zA 7) a.toNatClampNeg) = nI k := by simp [iu_e, zM, zA, eJ2, eJ1, hac, hk]
  have hik : vp_in (J2 (zA 7) a.toNatClampNeg) 8 := ix_of k ek hk8 (by decide)
  refine lv_aload_n hx hb dX6_go_27 rfl (lv_at hl 1 rfl) ?_
  refine fg6 hx hb ht hown hK hw (zs_m hz) rfl 27 wf6_68 (by decide) (nh_vr rfl (zr27 hz)) dX6_go_28 ?_
  refine lv_iload_n hx hb dX6_go_31 rfl (lv_at hl 0 rfl) ?_
  refine az_ld hx hb hK hw (zs27 hz) rfl hik dX6_go_32 ?_
  refine lv_if_eq (tgt := 37) hx hb dX6_go_33 (by decide) (fun c33 => ?_) (fun c33 => ?_)
  · refine lv_aload_n hx hb dX6_go_37 rfl (lv_at hl 1 rfl) ?_
    refine lv_aload_n hx hb dX6_go_38 rfl (lv_at hl 1 rfl) ?_
    refine fg6 (v := .int (J zM 17)) hx hb ht hown hK hw (zs_m hz) rfl 17 wf6_86 (by decide) (by simp [nh_v, im_sk, iu_e, zM, zA, eJ2, eJ1]) dX6_go_39 ?_
    refine lv_iconst (v := (-1)) hx hb dX6_go_42 (by decide) ?_
    refine kcX6_standing (As := [.int (J zM 17), .int (-1)]) (rest := []) wm6_101 (zc_standing l D cA hz (J zM 17) (-1) np (by simp [iu_e, zM, zA, eJ2, eJ1, hnp]) (by omega) (by simpa [iu_e, zM, zA, eJ2, eJ1] using hpi)) hx hb hml ht hown hK hw (zs_m hz) rfl rfl hl.1 rfl (by simp [Value.category]) ⟨by decide, by decide⟩ ⟨by simp, by simp⟩ dX6_go_43 (fun v S1 g1 I1 R1 H locs hp hw => ?_)
    obtain ⟨rfl, h1, h2, h3, h4⟩ := hp
    rw [h1, h2, h3, h4] at hw
    clear h1 h2 h3 h4
    show W _ _ _ _ _ _ _ _ _ _ _ _ _ _ _ (F0 m 46 ls [.int (zf_standing J2 np (J zM 17) (-1))])
    refine lv_istore_n (lv' := [(3, .int (zf_standing J2 np (J zM 17) (-1))), (2, .int (J2 (zA 7) a.toNatClampNeg)), (0, .ref (g zM)), (1, .int a)]) hx hb dX6_go_46 rfl hl (by decide) rfl (fun ls hl => ?_)
    refine lv_aload_n hx hb dX6_go_47 rfl (lv_at hl 2 rfl) ?_
    refine fg6 (v := .int (J zM 0)) hx hb ht hown hK hw (zs_m hz) rfl 0 wf6_71 (by decide) (by simp [nh_v, im_sk, iu_e, zM, zA, eJ2, eJ1]) dX6_go_48 ?_
    refine lv_iload_n hx hb dX6_go_51 rfl (lv_at hl 0 rfl) ?_
    refine lv_isub hx hb dX6_go_52 ?_
    refine lv_istore (lv' := [(4, .int ((J zM 0) - (zf_standing J2 np (J zM 17) (-1)))), (3, .int (zf_standing J2 np (J zM 17) (-1))), (2, .int (J2 (zA 7) a.toNatClampNeg)), (0, .ref (g zM)), (1, .int a)]) hx hb dX6_go_53 hl (by decide) rfl (fun ls hl => ?_)
    refine lv_aload_n hx hb dX6_go_55 rfl (lv_at hl 3 rfl) ?_
    refine fg6 hx hb ht hown hK hw (zs_m hz) rfl 2 wf6_7 (by decide) (nh_vr rfl (zr2 hz)) dX6_go_56 ?_
    refine lv_iload_n hx hb dX6_go_59 rfl (lv_at hl 2 rfl) ?_
    refine ai_ld hx hb hK hw (zs2 hz) rfl hik dX6_go_60 ?_
    refine lv_aload_n hx hb dX6_go_61 rfl (lv_at hl 3 rfl) ?_
    refine lv_aload_n hx hb dX6_go_62 rfl (lv_at hl 3 rfl) ?_
    refine fg6 (v := .int (J zM 17)) hx hb ht hown hK hw (zs_m hz) rfl 17 wf6_86 (by decide) (by simp [nh_v, im_sk, iu_e, zM, zA, eJ2, eJ1]) dX6_go_63 ?_
    refine lv_iload_n hx hb dX6_go_66 rfl (lv_at hl 2 rfl) ?_
    refine kcX6_standing (As := [.int (J zM 17), .int (J2 (zA 7) a.toNatClampNeg)]) (rest := [.int (J2 (zA 2) (J2 (zA 7) a.toNatClampNeg).toNatClampNeg)]) wm6_101 (zc_standing l D cA hz (J zM 17) (J2 (zA 7) a.toNatClampNeg) np (by simp [iu_e, zM, zA, eJ2, eJ1, hnp]) (by omega) (by simpa [iu_e, zM, zA, eJ2, eJ1] using hpi)) hx hb hml ht hown hK hw (zs_m hz) rfl rfl hl.1 rfl (by simp [Value.category]) ⟨by decide, by decide⟩ ⟨by simp, by simp⟩ dX6_go_67 (fun v S1 g1 I1 R1 H locs hp hw => ?_)
    obtain ⟨rfl, h1, h2, h3, h4⟩ := hp
    rw [h1, h2, h3, h4] at hw
    clear h1 h2 h3 h4
    show W _ _ _ _ _ _ _ _ _ _ _ _ _ _ _ (F0 m 70 ls [.int (zf_standing J2 np (J zM 17) (J2 (zA 7) a.toNatClampNeg)), .int (J2 (zA 2) (J2 (zA 7) a.toNatClampNeg).toNatClampNeg)])
    refine lv_isub hx hb dX6_go_70 ?_
    refine lv_istore (lv' := [(5, .int ((J2 (zA 2) (J2 (zA 7) a.toNatClampNeg).toNatClampNeg) - (zf_standing J2 np (J zM 17) (J2 (zA 7) a.toNatClampNeg)))), (4, .int ((J zM 0) - (zf_standing J2 np (J zM 17) (-1)))), (3, .int (zf_standing J2 np (J zM 17) (-1))), (2, .int (J2 (zA 7) a.toNatClampNeg)), (0, .ref (g zM)), (1, .int a)]) hx hb dX6_go_71 hl (by decide) rfl (fun ls hl => ?_)
    refine lv_aload_n hx hb dX6_go_73 rfl (lv_at hl 4 rfl) ?_
    refine fg6 hx hb ht hown hK hw (zs_m hz) rfl 2 wf6_7 (by decide) (nh_vr rfl (zr2 hz)) dX6_go_74 ?_
    refine lv_iload_n hx hb dX6_go_77 rfl (lv_at hl 3 rfl) ?_
    refine ai_ld hx hb hK hw (zs2 hz) rfl hik dX6_go_78 ?_
    refine lv_if_lt (tgt := 94) hx hb dX6_go_79 (by decide) (fun c79 => ?_) (fun c79 => ?_)
    · refine lv_iload hx hb dX6_go_94 (lv_at hl 1 rfl) ?_
      refine lv_istore (lv' := [(4, .int ((J zM 0) - (zf_standing J2 np (J zM 17) (-1)))), (5, .int ((J2 (zA 2) (J2 (zA 7) a.toNatClampNeg).toNatClampNeg) - (zf_standing J2 np (J zM 17) (J2 (zA 7) a.toNatClampNeg)))), (3, .int (zf_standing J2 np (J zM 17) (-1))), (2, .int (J2 (zA 7) a.toNatClampNeg)), (0, .ref (g zM)), (1, .int a)]) hx hb dX6_go_96 hl (by decide) rfl (fun ls hl => ?_)
      refine lv_iload hx hb dX6_go_98 (lv_at hl 0 rfl) ?_
      refine lv_if_ge (tgt := 107) hx hb dX6_go_100 (by decide) (fun c100 => ?_) (fun c100 => ?_)
      · refine lv_iload hx hb dX6_go_107 (lv_at hl 0 rfl) ?_
        refine lv_istore (lv' := [(4, .int ((J zM 0) - (zf_standing J2 np (J zM 17) (-1)))), (5, .int ((J2 (zA 2) (J2 (zA 7) a.toNatClampNeg).toNatClampNeg) - (zf_standing J2 np (J zM 17) (J2 (zA 7) a.toNatClampNeg)))), (3, .int (zf_standing J2 np (J zM 17) (-1))), (2, .int (J2 (zA 7) a.toNatClampNeg)), (0, .ref (g zM)), (1, .int a)]) hx hb dX6_go_109 hl (by decide) rfl (fun ls hl => ?_)
        subst eJ2
        subst eJ1
        simp only [zf_go, if_pos c33, if_pos c79, if_pos c100]
        exact zw_go2 hx hb hr hml ht hown hlocks hK hz hw a ((iu (iu J (zA 26) (J zM 25).toNatClampNeg a) zM 25 ((J zM 25) + 1)) (zA 7) a.toNatClampNeg) (zf_standing (iu (iu J (zA 26) (J zM 25).toNatClampNeg a) zM 25 ((J zM 25) + 1)) np (J zM 17) (-1)) ((J zM 0) - (zf_standing (iu (iu J (zA 26) (J zM 25).toNatClampNeg a) zM 25 ((J zM 25) + 1)) np (J zM 17) (-1))) (lv_sub hl [4, 5, 3, 2, 0] rfl) i hi hi2 k (by simp [iu_e, zM, zA, hk]) hk8 ek np (by simp [iu_e, zM, zA, hnp]) hp9
      · refine lv_iconst (v := 0) hx hb dX6_go_103 (by decide) ?_
        refine lv_goto (tgt := 109) hx hb dX6_go_104 (by decide) ?_
        refine lv_istore (lv' := [(4, .int 0), (5, .int ((J2 (zA 2) (J2 (zA 7) a.toNatClampNeg).toNatClampNeg) - (zf_standing J2 np (J zM 17) (J2 (zA 7) a.toNatClampNeg)))), (3, .int (zf_standing J2 np (J zM 17) (-1))), (2, .int (J2 (zA 7) a.toNatClampNeg)), (0, .ref (g zM)), (1, .int a)]) hx hb dX6_go_109 hl (by decide) rfl (fun ls hl => ?_)
        subst eJ2
        subst eJ1
        simp only [zf_go, if_pos c33, if_pos c79, if_neg c100]
        exact zw_go2 hx hb hr hml ht hown hlocks hK hz hw a ((iu (iu J (zA 26) (J zM 25).toNatClampNeg a) zM 25 ((J zM 25) + 1)) (zA 7) a.toNatClampNeg) (zf_standing (iu (iu J (zA 26) (J zM 25).toNatClampNeg a) zM 25 ((J zM 25) + 1)) np (J zM 17) (-1)) 0 (lv_sub hl [4, 5, 3, 2, 0] rfl) i hi hi2 k (by simp [iu_e, zM, zA, hk]) hk8 ek np (by simp [iu_e, zM, zA, hnp]) hp9
    · refine lv_iload hx hb dX6_go_82 (lv_at hl 0 rfl) ?_
      refine lv_iload hx hb dX6_go_84 (lv_at hl 1 rfl) ?_
      refine lv_icmp_ge (tgt := 94) hx hb dX6_go_86 (by decide) (fun c86 => ?_) (fun c86 => ?_)
      · refine lv_iload hx hb dX6_go_94 (lv_at hl 1 rfl) ?_
        refine lv_istore (lv' := [(4, .int ((J zM 0) - (zf_standing J2 np (J zM 17) (-1)))), (5, .int ((J2 (zA 2) (J2 (zA 7) a.toNatClampNeg).toNatClampNeg) - (zf_standing J2 np (J zM 17) (J2 (zA 7) a.toNatClampNeg)))), (3, .int (zf_standing J2 np (J zM 17) (-1))), (2, .int (J2 (zA 7) a.toNatClampNeg)), (0, .ref (g zM)), (1, .int a)]) hx hb dX6_go_96 hl (by decide) rfl (fun ls hl => ?_)
        refine lv_iload hx hb dX6_go_98 (lv_at hl 0 rfl) ?_
        refine lv_if_ge (tgt := 107) hx hb dX6_go_100 (by decide) (fun c100 => ?_) (fun c100 => ?_)
        · refine lv_iload hx hb dX6_go_107 (lv_at hl 0 rfl) ?_
          refine lv_istore (lv' := [(4, .int ((J zM 0) - (zf_standing J2 np (J zM 17) (-1)))), (5, .int ((J2 (zA 2) (J2 (zA 7) a.toNatClampNeg).toNatClampNeg) - (zf_standing J2 np (J zM 17) (J2 (zA 7) a.toNatClampNeg)))), (3, .int (zf_standing J2 np (J zM 17) (-1))), (2, .int (J2 (zA 7) a.toNatClampNeg)), (0, .ref (g zM)), (1, .int a)]) hx hb dX6_go_109 hl (by decide) rfl (fun ls hl => ?_)
          subst eJ2
          subst eJ1
          simp only [zf_go, if_pos c33, if_neg c79, if_pos c86, if_pos c100]
          exact zw_go2 hx hb hr hml ht hown hlocks hK hz hw a ((iu (iu J (zA 26) (J zM 25).toNatClampNeg a) zM 25 ((J zM 25) + 1)) (zA 7) a.toNatClampNeg) (zf_standing (iu (iu J (zA 26) (J zM 25).toNatClampNeg a) zM 25 ((J zM 25) + 1)) np (J zM 17) (-1)) ((J zM 0) - (zf_standing (iu (iu J (zA 26) (J zM 25).toNatClampNeg a) zM 25 ((J zM 25) + 1)) np (J zM 17) (-1))) (lv_sub hl [4, 5, 3, 2, 0] rfl) i hi hi2 k (by simp [iu_e, zM, zA, hk]) hk8 ek np (by simp [iu_e, zM, zA, hnp]) hp9
        · refine lv_iconst (v := 0) hx hb dX6_go_103 (by decide) ?_
          refine lv_goto (tgt := 109) hx hb dX6_go_104 (by decide) ?_
          refine lv_istore (lv' := [(4, .int 0), (5, .int ((J2 (zA 2) (J2 (zA 7) a.toNatClampNeg).toNatClampNeg) - (zf_standing J2 np (J zM 17) (J2 (zA 7) a.toNatClampNeg)))), (3, .int (zf_standing J2 np (J zM 17) (-1))), (2, .int (J2 (zA 7) a.toNatClampNeg)), (0, .ref (g zM)), (1, .int a)]) hx hb dX6_go_109 hl (by decide) rfl (fun ls hl => ?_)
          subst eJ2
          subst eJ1
          simp only [zf_go, if_pos c33, if_neg c79, if_pos c86, if_neg c100]
          exact zw_go2 hx hb hr hml ht hown hlocks hK hz hw a ((iu (iu J (zA 26) (J zM 25).toNatClampNeg a) zM 25 ((J zM 25) + 1)) (zA 7) a.toNatClampNeg) (zf_standing (iu (iu J (zA 26) (J zM 25).toNatClampNeg a) zM 25 ((J zM 25) + 1)) np (J zM 17) (-1)) 0 (lv_sub hl [4, 5, 3, 2, 0] rfl) i hi hi2 k (by simp [iu_e, zM, zA, hk]) hk8 ek np (by simp [iu_e, zM, zA, hnp]) hp9
      · refine lv_iload hx hb dX6_go_89 (lv_at hl 0 rfl) ?_
        refine lv_goto (tgt := 96) hx hb dX6_go_91 (by decide) ?_
        refine lv_istore (lv' := [(4, .int ((J2 (zA 2) (J2 (zA 7) a.toNatClampNeg).toNatClampNeg) - (zf_standing J2 np (J zM 17) (J2 (zA 7) a.toNatClampNeg)))), (5, .int ((J2 (zA 2) (J2 (zA 7) a.toNatClampNeg).toNatClampNeg) - (zf_standing J2 np (J zM 17) (J2 (zA 7) a.toNatClampNeg)))), (3, .int (zf_standing J2 np (J zM 17) (-1))), (2, .int (J2 (zA 7) a.toNatClampNeg)), (0, .ref (g zM)), (1, .int a)]) hx hb dX6_go_96 hl (by decide) rfl (fun ls hl => ?_)
        refine lv_iload hx hb dX6_go_98 (lv_at hl 0 rfl) ?_
        refine lv_if_ge (tgt := 107) hx hb dX6_go_100 (by decide) (fun c100 => ?_) (fun c100 => ?_)
        · refine lv_iload hx hb dX6_go_107 (lv_at hl 0 rfl) ?_
          refine lv_istore (lv' := [(4, .int ((J2 (zA 2) (J2 (zA 7) a.toNatClampNeg).toNatClampNeg) - (zf_standing J2 np (J zM 17) (J2 (zA 7) a.toNatClampNeg)))), (5, .int ((J2 (zA 2) (J2 (zA 7) a.toNatClampNeg).toNatClampNeg) - (zf_standing J2 np (J zM 17) (J2 (zA 7) a.toNatClampNeg)))), (3, .int (zf_standing J2 np (J zM 17) (-1))), (2, .int (J2 (zA 7) a.toNatClampNeg)), (0, .ref (g zM)), (1, .int a)]) hx hb dX6_go_109 hl (by decide) rfl (fun ls hl => ?_)
          subst eJ2
          subst eJ1
          simp only [zf_go, if_pos c33, if_neg c79, if_neg c86, if_pos c100]
          exact zw_go2 hx hb hr hml ht hown hlocks hK hz hw a ((iu (iu J (zA 26) (J zM 25).toNatClampNeg a) zM 25 ((J zM 25) + 1)) (zA 7) a.toNatClampNeg) (zf_standing (iu (iu J (zA 26) (J zM 25).toNatClampNeg a) zM 25 ((J zM 25) + 1)) np (J zM 17) (-1)) (((iu (iu J (zA 26) (J zM 25).toNatClampNeg a) zM 25 ((J zM 25) + 1)) (zA 2) ((iu (iu J (zA 26) (J zM 25).toNatClampNeg a) zM 25 ((J zM 25) + 1)) (zA 7) a.toNatClampNeg).toNatClampNeg) - (zf_standing (iu (iu J (zA 26) (J zM 25).toNatClampNeg a) zM 25 ((J zM 25) + 1)) np (J zM 17) ((iu (iu J (zA 26) (J zM 25).toNatClampNeg a) zM 25 ((J zM 25) + 1)) (zA 7) a.toNatClampNeg))) (lv_sub hl [4, 5, 3, 2, 0] rfl) i hi hi2 k (by simp [iu_e, zM, zA, hk]) hk8 ek np (by simp [iu_e, zM, zA, hnp]) hp9
        · refine lv_iconst (v := 0) hx hb dX6_go_103 (by decide) ?_
          refine lv_goto (tgt := 109) hx hb dX6_go_104 (by decide) ?_
          refine lv_istore (lv' := [(4, .int 0), (5, .int ((J2 (zA 2) (J2 (zA 7) a.toNatClampNeg).toNatClampNeg) - (zf_standing J2 np (J zM 17) (J2 (zA 7) a.toNatClampNeg)))), (3, .int (zf_standing J2 np (J zM 17) (-1))), (2, .int (J2 (zA 7) a.toNatClampNeg)), (0, .ref (g zM)), (1, .int a)]) hx hb dX6_go_109 hl (by decide) rfl (fun ls hl => ?_)
          subst eJ2
          subst eJ1
          simp only [zf_go, if_pos c33, if_neg c79, if_neg c86, if_neg c100]
          exact zw_go2 hx hb hr hml ht hown hlocks hK hz hw a ((iu (iu J (zA 26) (J zM 25).toNatClampNeg a) zM 25 ((J zM 25) + 1)) (zA 7) a.toNatClampNeg) (zf_standing (iu (iu J (zA 26) (J zM 25).toNatClampNeg a) zM 25 ((J zM 25) + 1)) np (J zM 17) (-1)) 0 (lv_sub hl [4, 5, 3, 2, 0] rfl) i hi hi2 k (by simp [iu_e, zM, zA, hk]) hk8 ek np (by simp [iu_e, zM, zA, hnp]) hp9
  · refine nh_vret hx hb hr hlocks hw (Nat.zero_le _) (Nat.zero_le _) dX6_go_36 ?_
    subst eJ2
    subst eJ1
    simp only [zf_go, if_neg c33]
    exact im_fin rfl rfl
end
section
def zgoOK (i : Nat) (J : nh_N → Nat → Int32) : Prop := ∃ k np nw, J (zA 7) i = nI k ∧ k < 8 ∧ J zM 18 = nI np ∧ np < 9000 ∧ (∀ q, q < np → ∃ i, i < 200 ∧ J (zA 20) q = nI i) ∧ J zM 25 = nI nw ∧ nw < 200
def zH1 (_ : nh_N → Nat → Int32) : Prop := True
def zO1 (_ : Nat) (_ : nh_N → Nat → Int32) : Prop := True
def zH2 (nb : Nat) (J : nh_N → Nat → Int32) : Prop := J zM 23 = nI nb
def zO2 (j : Nat) (J : nh_N → Nat → Int32) : Prop := ∃ i, J (zA 24) j = nI i ∧ i < 200 ∧ (¬ zf_waits J (nI i) = 0 → zgoOK i J)
def zH3 (ni : Nat) (J : nh_N → Nat → Int32) : Prop := J zM 6 = nI ni
def zO3 (mn j : Nat) (J : nh_N → Nat → Int32) : Prop := ¬ zf_waits J (nI j) = 0 → zf_isIn J mn (nI j) (nI mn) = 0 → zgoOK j J
def zH4 (nw : Nat) (J : nh_N → Nat → Int32) : Prop := J zM 25 = nI nw
def zs_cl1  (j : Nat) (J : (nh_N → Nat → Int32)) : (nh_N → Nat → Int32) := (if ((iu J (zA 27) (nI j).toNatClampNeg 0) (zA 4) (nI j).toNatClampNeg) = 0 then (iu (iu J (zA 27) (nI j).toNatClampNeg 0) (zA 5) (nI j).toNatClampNeg ((iu J (zA 27) (nI j).toNatClampNeg 0) (zA 5) (nI j).toNatClampNeg)) else (iu (iu J (zA 27) (nI j).toNatClampNeg 0) (zA 5) (nI j).toNatClampNeg 0))
def zl_cl1  : Nat → Nat → (nh_N → Nat → Int32) → (nh_N → Nat → Int32)
  | 0, _, J => J
  | r + 1, j, J => zl_cl1  r (j + 1) (zs_cl1  j J)
set_option maxHeartbeats 4000000 in
set_option maxRecDepth 100000 in
theorem zw_cl1 {p : Program} {l : Launch} {e : Env} {s : State} {m : MethodId} {below : List Frame} {meth : Method} {c : Code} {A : Nat → Prop} {D : va_G} {cA : Nat → ClassId} {S : nh_N → Option nh_C} {g : nh_N → Nat} {R : nh_N → Nat → Option nh_N} {av : Array Value} {Q : State → Prop} (hx : p.tables.exec = Jvm.exec) (hb : c.code = cX6_close) (hml : c.maxLocals = 4) (ht : ∀ w ∈ im_ws, w.before av s = true) (hown : s.vm.findClass qR6 = some m.cls) (hK : im_K D cA s) (hz : zSh S R)    : ∀ (r j : Nat) (J : (nh_N → Nat → Int32)) (H : Heap) (locs : List Loc) (ls : Array Slot), j + r = 8 → (∀ t, t ≤ r → zH1 (zl_cl1  t j J)) → (∀ t, t < r → zO1 (j + t) (zl_cl1  t j J)) → nh_S D im_cl im_sk cA A s.heap S g J R H locs → lv_has ls 4 [(0, .ref (g zM)), (1, .int (nI j))] → (∀ (H : Heap) (locs : List Loc) (ls : Array Slot), nh_S D im_cl im_sk cA A s.heap S g (zl_cl1  r j J) R H locs → lv_has ls 4 [(0, .ref (g zM)), (1, .int (nI 8))] → W p l e { frames := 2, cells := 0, slots := 0, locals := 53 } s m av below meth c H locs 0 0 Q (F0 m 58 ls [])) → W p l e { frames := 2, cells := 0, slots := 0, locals := 53 } s m av below meth c H locs 0 0 Q (F0 m 14 ls []) := by
  intro r
  induction r with
  | zero =>
    intro j J H locs ls hj hh hOK hw hl kk
    have hh0 : zH1 J := hh 0 (by omega)
    refine lv_iload_n hx hb dX6_close_14 rfl (lv_at hl 1 rfl) ?_
    refine lv_bipush (v := 8) hx hb dX6_close_15 (by decide) ?_
    refine lv_icmp_ge (tgt := 58) hx hb dX6_close_17 (by decide) (fun c17 => ?_) (fun c17 => ?_)
    · exact kk _ _ ls hw (by have h9 := lv_sub hl [0, 1] rfl; rw [show j = 8 by omega] at h9; exact h9)
    · exact absurd (by rw [show j = 8 by omega]; decide) c17
  | succ r ih =>
    intro j J H locs ls hj hh hOK hw hl kk
    have hh0 : zH1 J := hh 0 (by omega)
    have hok : zO1 j J := hOK 0 (by omega)
    have hj9 : vp_in (nI j) 8 := vp_in_nI (by omega) (by decide)
    refine lv_iload_n hx hb dX6_close_14 rfl (lv_at hl 1 rfl) ?_
    refine lv_bipush (v := 8) hx hb dX6_close_15 (by decide) ?_
    refine lv_icmp_ge (tgt := 58) hx hb dX6_close_17 (by decide) (fun c17 => ?_) (fun c17 => ?_)
    · exact absurd c17 (show ¬ nI 8 ≤ nI j from nI_ge (by omega) (by decide))
    · refine lv_aload_n hx hb dX6_close_20 rfl (lv_at hl 0 rfl) ?_
      refine fg6 hx hb ht hown hK hw (zs_m hz) rfl 27 wf6_68 (by decide) (nh_vr rfl (zr27 hz)) dX6_close_21 ?_
      refine lv_iload_n hx hb dX6_close_24 rfl (lv_at hl 1 rfl) ?_
      refine lv_iconst (v := 0) hx hb dX6_close_25 (by decide) ?_
      refine az_st hx hb hK hw (zs27 hz) rfl hj9 rfl dX6_close_26 (fun H locs J1 eJ1 hw => ?_)
      refine lv_aload_n hx hb dX6_close_27 rfl (lv_at hl 0 rfl) ?_
      refine fg6 hx hb ht hown hK hw (zs_m hz) rfl 5 wf6_20 (by decide) (nh_vr rfl (zr5 hz)) dX6_close_28 ?_
      refine lv_iload_n hx hb dX6_close_31 rfl (lv_at hl 1 rfl) ?_
      refine lv_aload_n hx hb dX6_close_32 rfl (lv_at hl 0 rfl) ?_
      refine fg6 hx hb ht hown hK hw (zs_m hz) rfl 4 wf6_16 (by decide) (nh_vr rfl (zr4 hz)) dX6_close_33 ?_
      refine lv_iload_n hx hb dX6_close_36 rfl (lv_at hl 1 rfl) ?_
      refine az_ld hx hb hK hw (zs4 hz) rfl hj9 dX6_close_37 ?_
      refine lv_if_eq (tgt := 45) hx hb dX6_close_38 (by decide) (fun c38 => ?_) (fun c38 => ?_)
      · refine lv_aload_n hx hb dX6_close_45 rfl (lv_at hl 0 rfl) ?_
        refine fg6 hx hb ht hown hK hw (zs_m hz) rfl 5 wf6_20 (by decide) (nh_vr rfl (zr5 hz)) dX6_close_46 ?_
        refine lv_iload_n hx hb dX6_close_49 rfl (lv_at hl 1 rfl) ?_
        refine ai_ld hx hb hK hw (zs5 hz) rfl hj9 dX6_close_50 ?_
        refine ai_st hx hb hK hw (zs5 hz) rfl hj9 dX6_close_51 (fun H locs J2 eJ2 hw => ?_)
        refine lv_iinc (v := (nI j) + 1) (lv' := [(1, .int ((nI j) + 1)), (0, .ref (g zM))]) hx hb dX6_close_52 hl (k := 1) rfl rfl (by decide) rfl (fun ls hl => ?_)
        refine lv_goto (tgt := 14) hx hb dX6_close_55 (by decide) ?_
        have h9 : lv_has ls 4 [(0, .ref (g zM)), (1, .int ((nI j) + 1))] := lv_sub hl [1, 0] rfl
        rw [nI_1] at h9
        subst eJ2
        subst eJ1
        have hstep : zs_cl1  j J = (iu (iu J (zA 27) (nI j).toNatClampNeg 0) (zA 5) (nI j).toNatClampNeg ((iu J (zA 27) (nI j).toNatClampNeg 0) (zA 5) (nI j).toNatClampNeg)) := by simp only [zs_cl1, if_pos c38]
        exact ih (j + 1) _ _ _ ls (by omega) (fun t h0 => by have h7 := hh (t + 1) (by omega); rw [← hstep]; exact h7) (fun t h0 => by have h7 := hOK (t + 1) (by omega); rw [show j + (t + 1) = j + 1 + t by omega] at h7; rw [← hstep]; exact h7) hw h9 (by rw [← hstep]; exact kk)
      · refine lv_iconst (v := 0) hx hb dX6_close_41 (by decide) ?_
        refine lv_goto (tgt := 51) hx hb dX6_close_42 (by decide) ?_
        refine ai_st hx hb hK hw (zs5 hz) rfl hj9 dX6_close_51 (fun H locs J3 eJ3 hw => ?_)
        refine lv_iinc (v := (nI j) + 1) (lv' := [(1, .int ((nI j) + 1)), (0, .ref (g zM))]) hx hb dX6_close_52 hl (k := 1) rfl rfl (by decide) rfl (fun ls hl => ?_)
        refine lv_goto (tgt := 14) hx hb dX6_close_55 (by decide) ?_
        have h9 : lv_has ls 4 [(0, .ref (g zM)), (1, .int ((nI j) + 1))] := lv_sub hl [1, 0] rfl
        rw [nI_1] at h9
        subst eJ3
        subst eJ1
        have hstep : zs_cl1  j J = (iu (iu J (zA 27) (nI j).toNatClampNeg 0) (zA 5) (nI j).toNatClampNeg 0) := by simp only [zs_cl1, if_neg c38]
        exact ih (j + 1) _ _ _ ls (by omega) (fun t h0 => by have h7 := hh (t + 1) (by omega); rw [← hstep]; exact h7) (fun t h0 => by have h7 := hOK (t + 1) (by omega); rw [show j + (t + 1) = j + 1 + t by omega] at h7; rw [← hstep]; exact h7) hw h9 (by rw [← hstep]; exact kk)
def zs_cl2  (j : Nat) (J : (nh_N → Nat → Int32)) : (nh_N → Nat → Int32) := (if (zf_waits J (J (zA 24) (nI j).toNatClampNeg)) = 0 then J else (zf_go J (J zM 18).toNatClampNeg (J (zA 24) (nI j).toNatClampNeg)).2)
def zl_cl2  : Nat → Nat → (nh_N → Nat → Int32) → (nh_N → Nat → Int32)
  | 0, _, J => J
  | r + 1, j, J => zl_cl2  r (j + 1) (zs_cl2  j J)
set_option maxHeartbeats 4000000 in
set_option maxRecDepth 100000 in
theorem zw_cl2 {p : Program} {l : Launch} {e : Env} {s : State} {m : MethodId} {below : List Frame} {meth : Method} {c : Code} {A : Nat → Prop} {D : va_G} {cA : Nat → ClassId} {S : nh_N → Option nh_C} {g : nh_N → Nat} {R : nh_N → Nat → Option nh_N} {av : Array Value} {Q : State → Prop} (hx : p.tables.exec = Jvm.exec) (hb : c.code = cX6_close) (hml : c.maxLocals = 4) (ht : ∀ w ∈ im_ws, w.before av s = true) (hown : s.vm.findClass qR6 = some m.cls) (hK : im_K D cA s) (hz : zSh S R)  (x1 : Int32) (nb : Nat) (hb2 : nb ≤ 200) : ∀ (r j : Nat) (J : (nh_N → Nat → Int32)) (H : Heap) (locs : List Loc) (ls : Array Slot), j + r = nb → (∀ t, t ≤ r → zH2 nb (zl_cl2  t j J)) → (∀ t, t < r → zO2 (j + t) (zl_cl2  t j J)) → nh_S D im_cl im_sk cA A s.heap S g J R H locs → lv_has ls 4 [(0, .ref (g zM)), (1, .int x1), (2, .int (nI j))] → (∀ (H : Heap) (locs : List Loc) (ls : Array Slot), nh_S D im_cl im_sk cA A s.heap S g (zl_cl2  r j J) R H locs → lv_has ls 4 [(0, .ref (g zM)), (1, .int x1), (2, .int (nI nb))] → W p l e { frames := 2, cells := 0, slots := 0, locals := 53 } s m av below meth c H locs 0 0 Q (F0 m 107 ls [])) → W p l e { frames := 2, cells := 0, slots := 0, locals := 53 } s m av below meth c H locs 0 0 Q (F0 m 70 ls []) := by
  intro r
  induction r with
  | zero =>
    intro j J H locs ls hj hh hOK hw hl kk
    have hh0 : zH2 nb J := hh 0 (by omega)
    refine lv_iload_n hx hb dX6_close_70 rfl (lv_at hl 2 rfl) ?_
    refine lv_aload_n hx hb dX6_close_71 rfl (lv_at hl 0 rfl) ?_
    refine fg6 (v := .int (J zM 23)) hx hb ht hown hK hw (zs_m hz) rfl 23 wf6_109 (by decide) (nh_vi rfl) dX6_close_72 ?_
    refine lv_icmp_ge (tgt := 107) hx hb dX6_close_75 (by decide) (fun c75 => ?_) (fun c75 => ?_)
    · exact kk _ _ ls hw (by have h9 := lv_sub hl [0, 1, 2] rfl; rw [show j = nb by omega] at h9; exact h9)
    · exact absurd (by rw [show J zM 23 = nI nb from hh0]; exact nI_le (by omega) (by omega)) c75
  | succ r ih =>
    intro j J H locs ls hj hh hOK hw hl kk
    have hh0 : zH2 nb J := hh 0 (by omega)
    have hok : zO2 j J := hOK 0 (by omega)
    have hj9 : vp_in (nI j) 200 := vp_in_nI (by omega) (by decide)
    obtain ⟨i, hi, hi2, hgo⟩ := hok
    refine lv_iload_n hx hb dX6_close_70 rfl (lv_at hl 2 rfl) ?_
    refine lv_aload_n hx hb dX6_close_71 rfl (lv_at hl 0 rfl) ?_
    refine fg6 (v := .int (J zM 23)) hx hb ht hown hK hw (zs_m hz) rfl 23 wf6_109 (by decide) (nh_vi rfl) dX6_close_72 ?_
    refine lv_icmp_ge (tgt := 107) hx hb dX6_close_75 (by decide) (fun c75 => ?_) (fun c75 => ?_)
    · exact absurd c75 (by rw [show J zM 23 = nI nb from hh0]; exact nI_ge (by omega) (by omega))
    · refine lv_aload_n hx hb dX6_close_78 rfl (lv_at hl 0 rfl) ?_
      refine lv_aload_n hx hb dX6_close_79 rfl (lv_at hl 0 rfl) ?_
      refine fg6 hx hb ht hown hK hw (zs_m hz) rfl 24 wf6_62 (by decide) (nh_vr rfl (zr24 hz)) dX6_close_80 ?_
      refine lv_iload_n hx hb dX6_close_83 rfl (lv_at hl 2 rfl) ?_
      refine ai_ld hx hb hK hw (zs24 hz) rfl hj9 dX6_close_84 ?_
      refine kcX6_waits (As := [.int (J (zA 24) (nI j).toNatClampNeg)]) (rest := []) wm6_112 (zc_waits l D cA hz (J (zA 24) (nI j).toNatClampNeg) i (by rw [nI_clamp (by omega)]; exact hi) hi2) hx hb hml ht hown hK hw (zs_m hz) rfl rfl hl.1 rfl (by simp [Value.category]) ⟨by decide, by decide⟩ ⟨by simp, by simp⟩ dX6_close_85 (fun v S1 g1 I1 R1 H locs hp hw => ?_)
      obtain ⟨rfl, h1, h2, h3, h4⟩ := hp
      rw [h1, h2, h3, h4] at hw
      clear h1 h2 h3 h4
      show W _ _ _ _ _ _ _ _ _ _ _ _ _ _ _ (F0 m 88 ls [.int (zf_waits J (J (zA 24) (nI j).toNatClampNeg))])
      refine lv_if_eq (tgt := 101) hx hb dX6_close_88 (by decide) (fun c88 => ?_) (fun c88 => ?_)
      · refine lv_iinc (v := (nI j) + 1) (lv' := [(2, .int ((nI j) + 1)), (0, .ref (g zM)), (1, .int x1)]) hx hb dX6_close_101 hl (k := 2) rfl rfl (by decide) rfl (fun ls hl => ?_)
        refine lv_goto (tgt := 70) hx hb dX6_close_104 (by decide) ?_
        have h9 : lv_has ls 4 [(0, .ref (g zM)), (1, .int x1), (2, .int ((nI j) + 1))] := lv_sub hl [1, 2, 0] rfl
        rw [nI_1] at h9
        have hstep : zs_cl2  j J = J := by simp only [zs_cl2, if_pos c88]
        exact ih (j + 1) _ _ _ ls (by omega) (fun t h0 => by have h7 := hh (t + 1) (by omega); rw [← hstep]; exact h7) (fun t h0 => by have h7 := hOK (t + 1) (by omega); rw [show j + (t + 1) = j + 1 + t by omega] at h7; rw [← hstep]; exact h7) hw h9 (by rw [← hstep]; exact kk)
      · obtain ⟨k, np, nw, hk, hk8, hnp0, hp90, hpi0, hnw, hw2⟩ := (hgo (by have h := c88; rw [nI_clamp (by omega), hi] at h; exact h))
        have enp : J zM 18 = nI (J zM 18).toNatClampNeg := by rw [hnp0, nI_clamp (by omega)]
        have hp9 : (J zM 18).toNatClampNeg < 9000 := by rw [hnp0, nI_clamp (by omega)]; exact hp90
        have hpi : ∀ q, q < (J zM 18).toNatClampNeg → ∃ i, i < 200 ∧ J (zA 20) q = nI i := by rw [hnp0, nI_clamp (by omega)]; exact hpi0
        refine lv_aload_n hx hb dX6_close_91 rfl (lv_at hl 0 rfl) ?_
        refine lv_aload_n hx hb dX6_close_92 rfl (lv_at hl 0 rfl) ?_
        refine fg6 hx hb ht hown hK hw (zs_m hz) rfl 24 wf6_62 (by decide) (nh_vr rfl (zr24 hz)) dX6_close_93 ?_
        refine lv_iload_n hx hb dX6_close_96 rfl (lv_at hl 2 rfl) ?_
        refine ai_ld hx hb hK hw (zs24 hz) rfl hj9 dX6_close_97 ?_
        refine kcX6_go (As := [.int (J (zA 24) (nI j).toNatClampNeg)]) (rest := []) wm6_115 (zc_go l D cA hz (J (zA 24) (nI j).toNatClampNeg) i (by rw [nI_clamp (by omega)]; exact hi) hi2 k hk hk8 (J zM 18).toNatClampNeg enp hp9 hpi nw hnw hw2) hx hb hml ht hown hK hw (zs_m hz) rfl rfl hl.1 rfl (by simp [Value.category]) ⟨by decide, by decide⟩ ⟨by simp, by simp⟩ dX6_close_98 (fun v S1 g1 J1 R1 H locs hp hw => ?_)
        obtain ⟨rfl, h1, h2, eJ1, h4⟩ := hp
        rw [h1, h2, h4] at hw
        clear h1 h2 h4
        show W _ _ _ _ _ _ _ _ _ _ _ _ _ _ _ (F0 m 101 ls [])
        refine lv_iinc (v := (nI j) + 1) (lv' := [(2, .int ((nI j) + 1)), (0, .ref (g zM)), (1, .int x1)]) hx hb dX6_close_101 hl (k := 2) rfl rfl (by decide) rfl (fun ls hl => ?_)
        refine lv_goto (tgt := 70) hx hb dX6_close_104 (by decide) ?_
        have h9 : lv_has ls 4 [(0, .ref (g zM)), (1, .int x1), (2, .int ((nI j) + 1))] := lv_sub hl [1, 2, 0] rfl
        rw [nI_1] at h9
        subst eJ1
        have hstep : zs_cl2  j J = (zf_go J (J zM 18).toNatClampNeg (J (zA 24) (nI j).toNatClampNeg)).2 := by simp only [zs_cl2, if_neg c88]
        exact ih (j + 1) _ _ _ ls (by omega) (fun t h0 => by have h7 := hh (t + 1) (by omega); rw [← hstep]; exact h7) (fun t h0 => by have h7 := hOK (t + 1) (by omega); rw [show j + (t + 1) = j + 1 + t by omega] at h7; rw [← hstep]; exact h7) hw h9 (by rw [← hstep]; exact kk)
def zs_cl3 (mn : Nat) (x2 : Int32) (j : Nat) (J : (nh_N → Nat → Int32)) : (nh_N → Nat → Int32) := (if (zf_waits J (nI j)) = 0 then J else (if (zf_isIn J mn (nI j) x2) = 0 then (zf_go J (J zM 18).toNatClampNeg (nI j)).2 else J))
def zl_cl3 (mn : Nat) (x2 : Int32) : Nat → Nat → (nh_N → Nat → Int32) → (nh_N → Nat → Int32)
  | 0, _, J => J
  | r + 1, j, J => zl_cl3 mn x2 r (j + 1) (zs_cl3 mn x2 j J)
set_option maxHeartbeats 4000000 in
set_option maxRecDepth 100000 in
theorem zw_cl3 {p : Program} {l : Launch} {e : Env} {s : State} {m : MethodId} {below : List Frame} {meth : Method} {c : Code} {A : Nat → Prop} {D : va_G} {cA : Nat → ClassId} {S : nh_N → Option nh_C} {g : nh_N → Nat} {R : nh_N → Nat → Option nh_N} {av : Array Value} {Q : State → Prop} (hx : p.tables.exec = Jvm.exec) (hb : c.code = cX6_close) (hml : c.maxLocals = 4) (ht : ∀ w ∈ im_ws, w.before av s = true) (hown : s.vm.findClass qR6 = some m.cls) (hK : im_K D cA s) (hz : zSh S R) (mn : Nat) (x2 : Int32) (x1 : Int32) (hmn : x2 = nI mn) (hm2 : mn ≤ 200) (ni : Nat) (hi2 : ni ≤ 200) : ∀ (r j : Nat) (J : (nh_N → Nat → Int32)) (H : Heap) (locs : List Loc) (ls : Array Slot), j + r = ni → (∀ t, t ≤ r → zH3 ni (zl_cl3 mn x2 t j J)) → (∀ t, t < r → zO3 mn (j + t) (zl_cl3 mn x2 t j J)) → nh_S D im_cl im_sk cA A s.heap S g J R H locs → lv_has ls 4 [(0, .ref (g zM)), (1, .int x1), (2, .int x2), (3, .int (nI j))] → (∀ (H : Heap) (locs : List Loc) (ls : Array Slot), nh_S D im_cl im_sk cA A s.heap S g (zl_cl3 mn x2 r j J) R H locs → lv_has ls 4 [(0, .ref (g zM)), (1, .int x1), (2, .int x2), (3, .int (nI ni))] → W p l e { frames := 2, cells := 0, slots := 0, locals := 53 } s m av below meth c H locs 0 0 Q (F0 m 150 ls [])) → W p l e { frames := 2, cells := 0, slots := 0, locals := 53 } s m av below meth c H locs 0 0 Q (F0 m 114 ls []) := by
  intro r
  induction r with
  | zero =>
    intro j J H locs ls hj hh hOK hw hl kk
    have hh0 : zH3 ni J := hh 0 (by omega)
    refine lv_iload_n hx hb dX6_close_114 rfl (lv_at hl 3 rfl) ?_
    refine lv_aload_n hx hb dX6_close_115 rfl (lv_at hl 0 rfl) ?_
    refine fg6 (v := .int (J zM 6)) hx hb ht hown hK hw (zs_m hz) rfl 6 wf6_89 (by decide) (nh_vi rfl) dX6_close_116 ?_
    refine lv_icmp_ge (tgt := 150) hx hb dX6_close_119 (by decide) (fun c119 => ?_) (fun c119 => ?_)
    · exact kk _ _ ls hw (by have h9 := lv_sub hl [0, 1, 2, 3] rfl; rw [show j = ni by omega] at h9; exact h9)
    · exact absurd (by rw [show J zM 6 = nI ni from hh0]; exact nI_le (by omega) (by omega)) c119
  | succ r ih =>
    intro j J H locs ls hj hh hOK hw hl kk
    have hh0 : zH3 ni J := hh 0 (by omega)
    have hok : zO3 mn j J := hOK 0 (by omega)
    refine lv_iload_n hx hb dX6_close_114 rfl (lv_at hl 3 rfl) ?_
    refine lv_aload_n hx hb dX6_close_115 rfl (lv_at hl 0 rfl) ?_
    refine fg6 (v := .int (J zM 6)) hx hb ht hown hK hw (zs_m hz) rfl 6 wf6_89 (by decide) (nh_vi rfl) dX6_close_116 ?_
    refine lv_icmp_ge (tgt := 150) hx hb dX6_close_119 (by decide) (fun c119 => ?_) (fun c119 => ?_)
    · exact absurd c119 (by rw [show J zM 6 = nI ni from hh0]; exact nI_ge (by omega) (by omega))
    · refine lv_aload_n hx hb dX6_close_122 rfl (lv_at hl 0 rfl) ?_
      refine lv_iload_n hx hb dX6_close_123 rfl (lv_at hl 3 rfl) ?_
      refine kcX6_waits (As := [.int (nI j)]) (rest := []) wm6_112 (zc_waits l D cA hz (nI j) j rfl (by omega)) hx hb hml ht hown hK hw (zs_m hz) rfl rfl hl.1 rfl (by simp [Value.category]) ⟨by decide, by decide⟩ ⟨by simp, by simp⟩ dX6_close_124 (fun v S1 g1 I1 R1 H locs hp hw => ?_)
      obtain ⟨rfl, h1, h2, h3, h4⟩ := hp
      rw [h1, h2, h3, h4] at hw
      clear h1 h2 h3 h4
      show W _ _ _ _ _ _ _ _ _ _ _ _ _ _ _ (F0 m 127 ls [.int (zf_waits J (nI j))])
      refine lv_if_eq (tgt := 144) hx hb dX6_close_127 (by decide) (fun c127 => ?_) (fun c127 => ?_)
      · refine lv_iinc (v := (nI j) + 1) (lv' := [(3, .int ((nI j) + 1)), (0, .ref (g zM)), (1, .int x1), (2, .int x2)]) hx hb dX6_close_144 hl (k := 3) rfl rfl (by decide) rfl (fun ls hl => ?_)
        refine lv_goto (tgt := 114) hx hb dX6_close_147 (by decide) ?_
        have h9 : lv_has ls 4 [(0, .ref (g zM)), (1, .int x1), (2, .int x2), (3, .int ((nI j) + 1))] := lv_sub hl [1, 2, 3, 0] rfl
        rw [nI_1] at h9
        have hstep : zs_cl3 mn x2 j J = J := by simp only [zs_cl3, if_pos c127]
        exact ih (j + 1) _ _ _ ls (by omega) (fun t h0 => by have h7 := hh (t + 1) (by omega); rw [← hstep]; exact h7) (fun t h0 => by have h7 := hOK (t + 1) (by omega); rw [show j + (t + 1) = j + 1 + t by omega] at h7; rw [← hstep]; exact h7) hw h9 (by rw [← hstep]; exact kk)
      · refine lv_aload_n hx hb dX6_close_130 rfl (lv_at hl 0 rfl) ?_
        refine lv_iload_n hx hb dX6_close_131 rfl (lv_at hl 3 rfl) ?_
        refine lv_iload_n hx hb dX6_close_132 rfl (lv_at hl 2 rfl) ?_
        refine kcX6_isIn (As := [.int (nI j), .int x2]) (rest := []) wm6_119 (zc_isIn l D cA hz (nI j) x2 mn hmn hm2) hx hb hml ht hown hK hw (zs_m hz) rfl rfl hl.1 rfl (by simp [Value.category]) ⟨by decide, by decide⟩ ⟨by simp, by simp⟩ dX6_close_133 (fun v S1 g1 I1 R1 H locs hp hw => ?_)
        obtain ⟨rfl, h1, h2, h3, h4⟩ := hp
        rw [h1, h2, h3, h4] at hw
        clear h1 h2 h3 h4
        show W _ _ _ _ _ _ _ _ _ _ _ _ _ _ _ (F0 m 136 ls [.int (zf_isIn J mn (nI j) x2)])
        refine lv_if_ne (tgt := 144) hx hb dX6_close_136 (by decide) (fun c136 => ?_) (fun c136 => ?_)
        · refine lv_iinc (v := (nI j) + 1) (lv' := [(3, .int ((nI j) + 1)), (0, .ref (g zM)), (1, .int x1), (2, .int x2)]) hx hb dX6_close_144 hl (k := 3) rfl rfl (by decide) rfl (fun ls hl => ?_)
          refine lv_goto (tgt := 114) hx hb dX6_close_147 (by decide) ?_
          have h9 : lv_has ls 4 [(0, .ref (g zM)), (1, .int x1), (2, .int x2), (3, .int ((nI j) + 1))] := lv_sub hl [1, 2, 3, 0] rfl
          rw [nI_1] at h9
          have hstep : zs_cl3 mn x2 j J = J := by simp only [zs_cl3, if_neg c127, if_neg c136]
          exact ih (j + 1) _ _ _ ls (by omega) (fun t h0 => by have h7 := hh (t + 1) (by omega); rw [← hstep]; exact h7) (fun t h0 => by have h7 := hOK (t + 1) (by omega); rw [show j + (t + 1) = j + 1 + t by omega] at h7; rw [← hstep]; exact h7) hw h9 (by rw [← hstep]; exact kk)
        · obtain ⟨k, np, nw, hk, hk8, hnp0, hp90, hpi0, hnw, hw2⟩ := (hok c127 (by rw [hmn] at c136; exact c136))
          have enp : J zM 18 = nI (J zM 18).toNatClampNeg := by rw [hnp0, nI_clamp (by omega)]
          have hp9 : (J zM 18).toNatClampNeg < 9000 := by rw [hnp0, nI_clamp (by omega)]; exact hp90
          have hpi : ∀ q, q < (J zM 18).toNatClampNeg → ∃ i, i < 200 ∧ J (zA 20) q = nI i := by rw [hnp0, nI_clamp (by omega)]; exact hpi0
          refine lv_aload_n hx hb dX6_close_139 rfl (lv_at hl 0 rfl) ?_
          refine lv_iload_n hx hb dX6_close_140 rfl (lv_at hl 3 rfl) ?_
          refine kcX6_go (As := [.int (nI j)]) (rest := []) wm6_115 (zc_go l D cA hz (nI j) j rfl (by omega) k hk hk8 (J zM 18).toNatClampNeg enp hp9 hpi nw hnw hw2) hx hb hml ht hown hK hw (zs_m hz) rfl rfl hl.1 rfl (by simp [Value.category]) ⟨by decide, by decide⟩ ⟨by simp, by simp⟩ dX6_close_141 (fun v S1 g1 J1 R1 H locs hp hw => ?_)
          obtain ⟨rfl, h1, h2, eJ1, h4⟩ := hp
          rw [h1, h2, h4] at hw
          clear h1 h2 h4
          show W _ _ _ _ _ _ _ _ _ _ _ _ _ _ _ (F0 m 144 ls [])
          refine lv_iinc (v := (nI j) + 1) (lv' := [(3, .int ((nI j) + 1)), (0, .ref (g zM)), (1, .int x1), (2, .int x2)]) hx hb dX6_close_144 hl (k := 3) rfl rfl (by decide) rfl (fun ls hl => ?_)
          refine lv_goto (tgt := 114) hx hb dX6_close_147 (by decide) ?_
          have h9 : lv_has ls 4 [(0, .ref (g zM)), (1, .int x1), (2, .int x2), (3, .int ((nI j) + 1))] := lv_sub hl [1, 2, 3, 0] rfl
          rw [nI_1] at h9
          subst eJ1
          have hstep : zs_cl3 mn x2 j J = (zf_go J (J zM 18).toNatClampNeg (nI j)).2 := by simp only [zs_cl3, if_neg c127, if_pos c136]
          exact ih (j + 1) _ _ _ ls (by omega) (fun t h0 => by have h7 := hh (t + 1) (by omega); rw [← hstep]; exact h7) (fun t h0 => by have h7 := hOK (t + 1) (by omega); rw [show j + (t + 1) = j + 1 + t by omega] at h7; rw [← hstep]; exact h7) hw h9 (by rw [← hstep]; exact kk)
def zs_cl4  (j : Nat) (J : (nh_N → Nat → Int32)) : (nh_N → Nat → Int32) := (iu J (zA 24) (nI j).toNatClampNeg (J (zA 26) (nI j).toNatClampNeg))
def zl_cl4  : Nat → Nat → (nh_N → Nat → Int32) → (nh_N → Nat → Int32)
  | 0, _, J => J
  | r + 1, j, J => zl_cl4  r (j + 1) (zs_cl4  j J)
set_option maxHeartbeats 4000000 in
set_option maxRecDepth 100000 in
theorem zw_cl4 {p : Program} {l : Launch} {e : Env} {s : State} {m : MethodId} {below : List Frame} {meth : Method} {c : Code} {A : Nat → Prop} {D : va_G} {cA : Nat → ClassId} {S : nh_N → Option nh_C} {g : nh_N → Nat} {R : nh_N → Nat → Option nh_N} {av : Array Value} {Q : State → Prop} (hx : p.tables.exec = Jvm.exec) (hb : c.code = cX6_close) (hml : c.maxLocals = 4) (ht : ∀ w ∈ im_ws, w.before av s = true) (hown : s.vm.findClass qR6 = some m.cls) (hK : im_K D cA s) (hz : zSh S R)  (x1 : Int32) (x2 : Int32) (nw : Nat) (hw2 : nw ≤ 200) : ∀ (r j : Nat) (J : (nh_N → Nat → Int32)) (H : Heap) (locs : List Loc) (ls : Array Slot), j + r = nw → (∀ t, t ≤ r → zH4 nw (zl_cl4  t j J)) → (∀ t, t < r → zO1 (j + t) (zl_cl4  t j J)) → nh_S D im_cl im_sk cA A s.heap S g J R H locs → lv_has ls 4 [(0, .ref (g zM)), (1, .int x1), (2, .int x2), (3, .int (nI j))] → (∀ (H : Heap) (locs : List Loc) (ls : Array Slot), nh_S D im_cl im_sk cA A s.heap S g (zl_cl4  r j J) R H locs → lv_has ls 4 [(0, .ref (g zM)), (1, .int x1), (2, .int x2), (3, .int (nI nw))] → W p l e { frames := 2, cells := 0, slots := 0, locals := 53 } s m av below meth c H locs 0 0 Q (F0 m 186 ls [])) → W p l e { frames := 2, cells := 0, slots := 0, locals := 53 } s m av below meth c H locs 0 0 Q (F0 m 160 ls []) := by
  intro r
  induction r with
  | zero =>
    intro j J H locs ls hj hh hOK hw hl kk
    have hh0 : zH4 nw J := hh 0 (by omega)
    refine lv_iload_n hx hb dX6_close_160 rfl (lv_at hl 3 rfl) ?_
    refine lv_aload_n hx hb dX6_close_161 rfl (lv_at hl 0 rfl) ?_
    refine fg6 (v := .int (J zM 25)) hx hb ht hown hK hw (zs_m hz) rfl 25 wf6_98 (by decide) (nh_vi rfl) dX6_close_162 ?_
    refine lv_icmp_ge (tgt := 186) hx hb dX6_close_165 (by decide) (fun c165 => ?_) (fun c165 => ?_)
    · exact kk _ _ ls hw (by have h9 := lv_sub hl [0, 1, 2, 3] rfl; rw [show j = nw by omega] at h9; exact h9)
    · exact absurd (by rw [show J zM 25 = nI nw from hh0]; exact nI_le (by omega) (by omega)) c165
  | succ r ih =>
    intro j J H locs ls hj hh hOK hw hl kk
    have hh0 : zH4 nw J := hh 0 (by omega)
    have hok : zO1 j J := hOK 0 (by omega)
    have hj9 : vp_in (nI j) 200 := vp_in_nI (by omega) (by decide)
    refine lv_iload_n hx hb dX6_close_160 rfl (lv_at hl 3 rfl) ?_
    refine lv_aload_n hx hb dX6_close_161 rfl (lv_at hl 0 rfl) ?_
    refine fg6 (v := .int (J zM 25)) hx hb ht hown hK hw (zs_m hz) rfl 25 wf6_98 (by decide) (nh_vi rfl) dX6_close_162 ?_
    refine lv_icmp_ge (tgt := 186) hx hb dX6_close_165 (by decide) (fun c165 => ?_) (fun c165 => ?_)
    · exact absurd c165 (by rw [show J zM 25 = nI nw from hh0]; exact nI_ge (by omega) (by omega))
    · refine lv_aload_n hx hb dX6_close_168 rfl (lv_at hl 0 rfl) ?_
      refine fg6 hx hb ht hown hK hw (zs_m hz) rfl 24 wf6_62 (by decide) (nh_vr rfl (zr24 hz)) dX6_close_169 ?_
      refine lv_iload_n hx hb dX6_close_172 rfl (lv_at hl 3 rfl) ?_
      refine lv_aload_n hx hb dX6_close_173 rfl (lv_at hl 0 rfl) ?_
      refine fg6 hx hb ht hown hK hw (zs_m hz) rfl 26 wf6_65 (by decide) (nh_vr rfl (zr26 hz)) dX6_close_174 ?_
      refine lv_iload_n hx hb dX6_close_177 rfl (lv_at hl 3 rfl) ?_
      refine ai_ld hx hb hK hw (zs26 hz) rfl hj9 dX6_close_178 ?_
      refine ai_st hx hb hK hw (zs24 hz) rfl hj9 dX6_close_179 (fun H locs J1 eJ1 hw => ?_)
      refine lv_iinc (v := (nI j) + 1) (lv' := [(3, .int ((nI j) + 1)), (0, .ref (g zM)), (1, .int x1), (2, .int x2)]) hx hb dX6_close_180 hl (k := 3) rfl rfl (by decide) rfl (fun ls hl => ?_)
      refine lv_goto (tgt := 160) hx hb dX6_close_183 (by decide) ?_
      have h9 : lv_has ls 4 [(0, .ref (g zM)), (1, .int x1), (2, .int x2), (3, .int ((nI j) + 1))] := lv_sub hl [1, 2, 3, 0] rfl
      rw [nI_1] at h9
      subst eJ1
      have hstep : zs_cl4  j J = (iu J (zA 24) (nI j).toNatClampNeg (J (zA 26) (nI j).toNatClampNeg)) := by rfl
      exact ih (j + 1) _ _ _ ls (by omega) (fun t h0 => by have h7 := hh (t + 1) (by omega); rw [← hstep]; exact h7) (fun t h0 => by have h7 := hOK (t + 1) (by omega); rw [show j + (t + 1) = j + 1 + t by omega] at h7; rw [← hstep]; exact h7) hw h9 (by rw [← hstep]; exact kk)
end
section
def zf_close (J P1 P4 : nh_N → Nat → Int32) : Int32 × (nh_N → Nat → Int32) := if J zM 17 = 40 then (-3, J) else (P4 zM 18 - P1 zM 18, iu P4 zM 17 (P4 zM 17 + 1))
/-- what close needs of its start: its loops stay in their bounds; P1 .. P4: the heap behind each loop -/
def zclOK (J : nh_N → Nat → Int32) (nb mn ni nw : Nat) (P1 P2 P3 P4 : nh_N → Nat → Int32) : Prop := zl_cl1 8 0 J = P1 ∧ zl_cl2 nb 0 (iu P1 zM 25 0) = P2 ∧ zl_cl3 mn (nI mn) ni 0 P2 = P3 ∧ zl_cl4 nw 0 (iu P3 zM 23 (P3 zM 25)) = P4 ∧ nb ≤ 200 ∧ (∀ t, t ≤ nb → zH2 nb (zl_cl2 t 0 (iu P1 zM 25 0))) ∧ (∀ t, t < nb → zO2 (0 + t) (zl_cl2 t 0 (iu P1 zM 25 0))) ∧ P2 zM 25 = nI mn ∧ mn ≤ 200 ∧ ni ≤ 200 ∧ (∀ t, t ≤ ni → zH3 ni (zl_cl3 mn (nI mn) t 0 P2)) ∧ (∀ t, t < ni → zO3 mn (0 + t) (zl_cl3 mn (nI mn) t 0 P2)) ∧ nw ≤ 200 ∧ ∀ t, t ≤ nw → zH4 nw (zl_cl4 t 0 (iu P3 zM 23 (P3 zM 25)))
set_option maxHeartbeats 4000000 in
set_option maxRecDepth 100000 in
theorem zc_close (l : Launch) (D : va_G) (cA : Nat → ClassId) {S : nh_N → Option nh_C} {g : nh_N → Nat} {J : (nh_N → Nat → Int32)} {R : nh_N → Nat → Option nh_N} (hz : zSh S R)  (nb mn ni nw : Nat) (P1 P2 P3 P4 : nh_N → Nat → Int32) (hcl : ¬ J zM 17 = 40 → zclOK J nb mn ni nw P1 P2 P3 P4) : im_M l D cA yX6_close vX6_close 2 53 0 0 [.ref (g zM)] S g J R (im_eq (some (.int (zf_close J P1 P4).1)) S g (zf_close J P1 P4).2 R) := by
  refine nh_of (cc := cX6_close) (maxL := 4) (ret := (some .int)) (by decide) rfl (Nat.le_of_ble_eq_true rfl) ?_
  intro p e s m below meth c A ls hx hb hr hml hts hown hlocks hin hK hw hl
  have ht : ∀ w ∈ im_ws, w.before _ s = true := fun w h => hts w (List.mem_cons_of_mem _ h)
  have hl : lv_has ls 4 [(0, .ref (g zM))] := hl
  refine lv_aload_n hx hb dX6_close_0 rfl (lv_at hl 0 rfl) ?_
  refine fg6 (v := .int (J zM 17)) hx hb ht hown hK hw (zs_m hz) rfl 17 wf6_86 (by decide) (nh_vi rfl) dX6_close_1 ?_
  refine lv_bipush (v := 40) hx hb dX6_close_4 (by decide) ?_
  refine lv_icmp_ne (tgt := 12) hx hb dX6_close_6 (by decide) (fun c6 => ?_) (fun c6 => ?_)
  · obtain ⟨e1, e2, e3, e4, hb2, hA1, hA2, hmn, hm2, hi2, hB1, hB2, hw2, hC1⟩ := hcl c6
    refine lv_iconst (v := 0) hx hb dX6_close_12 (by decide) ?_
    refine lv_istore_n (lv' := [(1, .int 0), (0, .ref (g zM))]) hx hb dX6_close_13 rfl hl (by decide) rfl (fun ls hl => ?_)
    refine zw_cl1 hx hb hml ht hown hK hz  8 0 J _ _ ls (by omega) (fun _ _ => trivial) (fun _ _ => trivial) hw (by rw [nI_0]; exact lv_sub hl [1, 0] rfl) (fun H locs ls hw hl => ?_)
    rw [e1] at hw
    have hl : lv_has ls 4 [(0, .ref (g zM)), (1, .int (nI 8))] := hl
    refine lv_aload_n hx hb dX6_close_58 rfl (lv_at hl 0 rfl) ?_
    refine fg6 (v := .int (P1 zM 18)) hx hb ht hown hK hw (zs_m hz) rfl 18 wf6_95 (by decide) (nh_vi rfl) dX6_close_59 ?_
    refine lv_istore_n (lv' := [(1, .int (P1 zM 18)), (0, .ref (g zM))]) hx hb dX6_close_62 rfl hl (by decide) rfl (fun ls hl => ?_)
    refine lv_aload_n hx hb dX6_close_63 rfl (lv_at hl 1 rfl) ?_
    refine lv_iconst (v := 0) hx hb dX6_close_64 (by decide) ?_
    refine fp6 hx hb ht hown hK hw (zs_m hz) rfl 25 wf6_98 (by decide) rfl rfl rfl rfl dX6_close_65 (fun H locs J1 eJ1 hw => ?_)
    refine lv_iconst (v := 0) hx hb dX6_close_68 (by decide) ?_
    refine lv_istore_n (lv' := [(2, .int 0), (1, .int (P1 zM 18)), (0, .ref (g zM))]) hx hb dX6_close_69 rfl hl (by decide) rfl (fun ls hl => ?_)
    subst eJ1
    refine zw_cl2 hx hb hml ht hown hK hz (P1 zM 18) nb hb2 nb 0 (iu P1 zM 25 0) _ _ ls (by omega) hA1 hA2 hw (by rw [nI_0]; exact lv_sub hl [2, 1, 0] rfl) (fun H locs ls hw hl => ?_)
    rw [e2] at hw
    have hl : lv_has ls 4 [(0, .ref (g zM)), (1, .int (P1 zM 18)), (2, .int (nI nb))] := hl
    refine lv_aload_n hx hb dX6_close_107 rfl (lv_at hl 0 rfl) ?_
    refine fg6 (v := .int (P2 zM 25)) hx hb ht hown hK hw (zs_m hz) rfl 25 wf6_98 (by decide) (nh_vi rfl) dX6_close_108 ?_
    rw [hmn]
    refine lv_istore_n (lv' := [(2, .int (nI mn)), (0, .ref (g zM)), (1, .int (P1 zM 18))]) hx hb dX6_close_111 rfl hl (by decide) rfl (fun ls hl => ?_)
    refine lv_iconst (v := 0) hx hb dX6_close_112 (by decide) ?_
    refine lv_istore_n (lv' := [(3, .int 0), (2, .int (nI mn)), (0, .ref (g zM)), (1, .int (P1 zM 18))]) hx hb dX6_close_113 rfl hl (by decide) rfl (fun ls hl => ?_)
    refine zw_cl3 hx hb hml ht hown hK hz mn (nI mn) (P1 zM 18) rfl hm2 ni hi2 ni 0 P2 _ _ ls (by omega) hB1 hB2 hw (by rw [nI_0]; exact lv_sub hl [2, 3, 1, 0] rfl) (fun H locs ls hw hl => ?_)
    rw [e3] at hw
    have hl : lv_has ls 4 [(0, .ref (g zM)), (1, .int (P1 zM 18)), (2, .int (nI mn)), (3, .int (nI ni))] := hl
    refine lv_aload_n hx hb dX6_close_150 rfl (lv_at hl 0 rfl) ?_
    refine lv_aload_n hx hb dX6_close_151 rfl (lv_at hl 0 rfl) ?_
    refine fg6 (v := .int (P3 zM 25)) hx hb ht hown hK hw (zs_m hz) rfl 25 wf6_98 (by decide) (nh_vi rfl) dX6_close_152 ?_
    refine fp6 hx hb ht hown hK hw (zs_m hz) rfl 23 wf6_109 (by decide) rfl rfl rfl rfl dX6_close_155 (fun H locs J2 eJ2 hw => ?_)
    refine lv_iconst (v := 0) hx hb dX6_close_158 (by decide) ?_
    refine lv_istore_n (lv' := [(3, .int 0), (0, .ref (g zM)), (1, .int (P1 zM 18)), (2, .int (nI mn))]) hx hb dX6_close_159 rfl hl (by decide) rfl (fun ls hl => ?_)
    subst eJ2
    refine zw_cl4 hx hb hml ht hown hK hz (P1 zM 18) (nI mn) nw hw2 nw 0 (iu P3 zM 23 (P3 zM 25)) _ _ ls (by omega) hC1 (fun _ _ => trivial) hw (by rw [nI_0]; exact lv_sub hl [1, 2, 3, 0] rfl) (fun H locs ls hw hl => ?_)
    rw [e4] at hw
    have hl : lv_has ls 4 [(0, .ref (g zM)), (1, .int (P1 zM 18)), (2, .int (nI mn)), (3, .int (nI nw))] := hl
    refine lv_aload_n hx hb dX6_close_186 rfl (lv_at hl 0 rfl) ?_
    refine lv_dup hx hb dX6_close_187 rfl ?_
    refine fg6 (v := .int (P4 zM 17)) hx hb ht hown hK hw (zs_m hz) rfl 17 wf6_86 (by decide) (nh_vi rfl) dX6_close_188 ?_
    refine lv_iconst (v := 1) hx hb dX6_close_191 (by decide) ?_
    refine lv_iadd hx hb dX6_close_192 ?_
    refine fp6 hx hb ht hown hK hw (zs_m hz) rfl 17 wf6_86 (by decide) rfl rfl rfl rfl dX6_close_193 (fun H locs J3 eJ3 hw => ?_)
    refine lv_aload_n hx hb dX6_close_196 rfl (lv_at hl 0 rfl) ?_
    refine fg6 (v := .int (P4 zM 18)) hx hb ht hown hK hw (zs_m hz) rfl 18 wf6_95 (by decide) (by simp [nh_v, im_sk, iu_e, zM, zA, eJ3]) dX6_close_197 ?_
    refine lv_iload_n hx hb dX6_close_200 rfl (lv_at hl 1 rfl) ?_
    refine lv_isub hx hb dX6_close_201 ?_
    refine nh_iret hx hb hr rfl hlocks hw (Nat.zero_le _) (Nat.zero_le _) dX6_close_202 ?_
    subst eJ3
    simp only [zf_close, if_neg c6]
    exact im_fin rfl rfl
  · refine lv_bipush (v := (-3)) hx hb dX6_close_9 (by decide) ?_
    refine nh_iret hx hb hr rfl hlocks hw (Nat.zero_le _) (Nat.zero_le _) dX6_close_11 ?_
    simp only [zf_close, if_pos c6]
    exact im_fin rfl rfl
end
section
def zhd (J : nh_N → Nat → Int32) (nb : Nat) : Prop := J zM 23 = nI nb ∧ nb ≤ 200 ∧ ∀ q, q < nb → ∃ i, i < 200 ∧ J (zA 24) q = nI i
/-- one turn of flush, from J to J2 -/
def zflS (J J2 : nh_N → Nat → Int32) : Prop := ∃ nb, zhd J nb ∧ ¬ zf_heldAt J nb 0 < 0 ∧ ¬ 40 ≤ J zM 17 ∧ ∃ (nb2 mn ni nw : Nat) (P1 P2 P3 P4 : nh_N → Nat → Int32), zclOK J nb2 mn ni nw P1 P2 P3 P4 ∧ (zf_close J P1 P4).2 = J2
def zflE (J : nh_N → Nat → Int32) : Prop := ∃ nb, zhd J nb ∧ (zf_heldAt J nb 0 < 0 ∨ 40 ≤ J zM 17)
set_option maxHeartbeats 4000000 in
set_option maxRecDepth 100000 in
theorem zc_flush (l : Launch) (D : va_G) (cA : Nat → ClassId) {S : nh_N → Option nh_C} {g : nh_N → Nat} {J : (nh_N → Nat → Int32)} {R : nh_N → Nat → Option nh_N} (hz : zSh S R) (Z : Nat → (nh_N → Nat → Int32)) (N : Nat) (hZ0 : Z 0 = J) (hT : ∀ t, t < N → zflS (Z t) (Z (t + 1))) (hE : zflE (Z N)) : im_M l D cA yX6_flush vX6_flush 3 76 0 0 [.ref (g zM)] S g J R (im_eq (some (.int (nI N))) S g (Z N) R) := by
  refine nh_of (cc := cX6_flush) (maxL := 3) (ret := (some .int)) (by decide) rfl (Nat.le_of_ble_eq_true rfl) ?_
  intro p e s m below meth c A ls hx hb hr hml hts hown hlocks hin hK hw hl
  have ht : ∀ w ∈ im_ws, w.before _ s = true := fun w h => hts w (List.mem_cons_of_mem _ h)
  have hl : lv_has ls 3 [(0, .ref (g zM))] := hl
  have loop : ∀ (r j : Nat) (ls : Array Slot) (H : Heap) (locs : List Loc), j + r = N → nh_S D im_cl im_sk cA A s.heap S g (Z j) R H locs → lv_has ls 3 [(0, .ref (g zM)), (1, .int (nI j))] → W p l e { frames := 3, cells := 0, slots := 0, locals := 76 } s m ([.ref (g zM)] : List Value).toArray below meth c H locs 0 0 (MQ below (nh_Q D im_cl im_sk cA A (im_eq (some (.int (nI N))) S g (Z N) R)) ([.ref (g zM)] : List Value).toArray s 0 0 A) (F0 m 2 ls []) := by
    intro r
    induction r with
    | zero =>
      intro j ls H locs hj hw hl
      obtain rfl : j = N := by omega
      obtain ⟨nb, ⟨hnb, hb2, hor⟩, hend⟩ := hE
      refine lv_aload_n hx hb dX6_flush_2 rfl (lv_at hl 0 rfl) ?_
      refine lv_iconst (v := 0) hx hb dX6_flush_3 (by decide) ?_
      refine kcX6_heldAt (As := [.int 0]) (rest := []) wm6_123 (zc_heldAt l D cA hz 0 nb hnb hb2 hor) hx hb hml ht hown hK hw (zs_m hz) rfl rfl hl.1 rfl (by simp [Value.category]) ⟨by decide, by decide⟩ ⟨by simp, by simp⟩ dX6_flush_4 (fun v S1 g1 I1 R1 H locs hp hw => ?_)
      obtain ⟨rfl, h1, h2, h3, h4⟩ := hp
      rw [h1, h2, h3, h4] at hw
      clear h1 h2 h3 h4
      show W _ _ _ _ _ _ _ _ _ _ _ _ _ _ _ (F0 m 7 ls [.int (zf_heldAt (Z j) nb 0)])
      refine lv_if_lt (tgt := 30) hx hb dX6_flush_7 (by decide) (fun c7 => ?_) (fun c7 => ?_)
      · refine lv_iload_n hx hb dX6_flush_30 rfl (lv_at hl 1 rfl) ?_
        refine nh_iret hx hb hr rfl hlocks hw (Nat.zero_le _) (Nat.zero_le _) dX6_flush_31 ?_
        exact im_fin rfl rfl
      · refine lv_aload_n hx hb dX6_flush_10 rfl (lv_at hl 0 rfl) ?_
        refine fg6 (v := .int ((Z j) zM 17)) hx hb ht hown hK hw (zs_m hz) rfl 17 wf6_86 (by decide) (nh_vi rfl) dX6_flush_11 ?_
        refine lv_bipush (v := 40) hx hb dX6_flush_14 (by decide) ?_
        refine lv_icmp_ge (tgt := 30) hx hb dX6_flush_16 (by decide) (fun c16 => ?_) (fun c16 => ?_)
        · refine lv_iload_n hx hb dX6_flush_30 rfl (lv_at hl 1 rfl) ?_
          refine nh_iret hx hb hr rfl hlocks hw (Nat.zero_le _) (Nat.zero_le _) dX6_flush_31 ?_
          exact im_fin rfl rfl
        · rcases hend with h | h
          · exact absurd h c7
          · exact absurd h c16
    | succ r ih =>
      intro j ls H locs hj hw hl
      obtain ⟨nb, ⟨hnb, hb2, hor⟩, hs1, hs2, nb2, mn, ni, nw, P1, P2, P3, P4, hcl, hZ⟩ := hT j (by omega)
      refine lv_aload_n hx hb dX6_flush_2 rfl (lv_at hl 0 rfl) ?_
      refine lv_iconst (v := 0) hx hb dX6_flush_3 (by decide) ?_
      refine kcX6_heldAt (As := [.int 0]) (rest := []) wm6_123 (zc_heldAt l D cA hz 0 nb hnb hb2 hor) hx hb hml ht hown hK hw (zs_m hz) rfl rfl hl.1 rfl (by simp [Value.category]) ⟨by decide, by decide⟩ ⟨by simp, by simp⟩ dX6_flush_4 (fun v S1 g1 I1 R1 H locs hp hw => ?_)
      obtain ⟨rfl, h1, h2, h3, h4⟩ := hp
      rw [h1, h2, h3, h4] at hw
      clear h1 h2 h3 h4
      show W _ _ _ _ _ _ _ _ _ _ _ _ _ _ _ (F0 m 7 ls [.int (zf_heldAt (Z j) nb 0)])
      refine lv_if_lt (tgt := 30) hx hb dX6_flush_7 (by decide) (fun c7 => ?_) (fun c7 => ?_)
      · exact absurd c7 hs1
      · refine lv_aload_n hx hb dX6_flush_10 rfl (lv_at hl 0 rfl) ?_
        refine fg6 (v := .int ((Z j) zM 17)) hx hb ht hown hK hw (zs_m hz) rfl 17 wf6_86 (by decide) (nh_vi rfl) dX6_flush_11 ?_
        refine lv_bipush (v := 40) hx hb dX6_flush_14 (by decide) ?_
        refine lv_icmp_ge (tgt := 30) hx hb dX6_flush_16 (by decide) (fun c16 => ?_) (fun c16 => ?_)
        · exact absurd c16 hs2
        · refine lv_aload_n hx hb dX6_flush_19 rfl (lv_at hl 0 rfl) ?_
          refine kcX6_close (As := []) (rest := []) wm6_127 (zc_close l D cA hz nb2 mn ni nw P1 P2 P3 P4 (fun _ => hcl)) hx hb hml ht hown hK hw (zs_m hz) rfl rfl hl.1 rfl (by simp [Value.category]) ⟨by decide, by decide⟩ ⟨by simp, by simp⟩ dX6_flush_20 (fun v S1 g1 J1 R1 H locs hp hw => ?_)
          obtain ⟨rfl, h1, h2, eJ1, h4⟩ := hp
          rw [h1, h2, h4] at hw
          clear h1 h2 h4
          show W _ _ _ _ _ _ _ _ _ _ _ _ _ _ _ (F0 m 23 ls [.int ((zf_close (Z j) P1 P4).1)])
          refine lv_istore_n (lv' := [(2, .int ((zf_close (Z j) P1 P4).1)), (0, .ref (g zM)), (1, .int (nI j))]) hx hb dX6_flush_23 rfl hl (by decide) rfl (fun ls hl => ?_)
          refine lv_iinc (v := (nI j) + 1) (lv' := [(1, .int ((nI j) + 1)), (2, .int ((zf_close (Z j) P1 P4).1)), (0, .ref (g zM))]) hx hb dX6_flush_24 hl (k := 2) rfl rfl (by decide) rfl (fun ls hl => ?_)
          refine lv_goto (tgt := 2) hx hb dX6_flush_27 (by decide) ?_
          rw [hZ] at eJ1
          subst eJ1
          exact ih (j + 1) ls _ _ (by omega) hw (by have h9 := lv_sub hl [2, 0] rfl; rw [nI_1] at h9; exact h9)
  refine lv_iconst (v := 0) hx hb dX6_flush_0 (by decide) ?_
  refine lv_istore_n (lv' := [(1, .int 0), (0, .ref (g zM))]) hx hb dX6_flush_1 rfl hl (by decide) rfl (fun ls hl => ?_)
  exact loop N 0 ls _ _ (by omega) (by rw [hZ0]; exact hw) (by rw [nI_0]; exact lv_sub hl [1, 0] rfl)
def zcd (s : Nat) : Nat := match s with
  | 4 => 2
  | 11 => 2
  | 22 => 2
  | 27 => 2
  | _ => 1
def zln (s : Nat) : Nat := match s with
  | 2 => 8
  | 3 => 8
  | 4 => 8
  | 5 => 8
  | 7 => 200
  | 8 => 200
  | 9 => 200
  | 10 => 200
  | 11 => 200
  | 12 => 200
  | 14 => 300
  | 15 => 300
  | 16 => 300
  | 19 => 9000
  | 20 => 9000
  | 21 => 9000
  | 22 => 9000
  | 24 => 200
  | 26 => 200
  | 27 => 8
  | _ => 0
/-- the object zM with the arrays at the places in L, all 0 -/
def zst (L : List Nat) (S : nh_N → Option nh_C) (I : nh_N → Nat → Int32) (R : nh_N → Nat → Option nh_N) : Prop := S zM = some (0, 6) ∧ (∀ s, s ∈ L → R zM s = some (zA s) ∧ S (zA s) = some (zcd s, zln s) ∧ ∀ j, I (zA s) j = 0) ∧ (∀ s, s ∉ L → S (zA s) = none) ∧ ∀ s, I zM s = 0
theorem zst_step {L : List Nat} {S S1 : nh_N → Option nh_C} {I I1 : nh_N → Nat → Int32} {R R1 R2 : nh_N → Nat → Option nh_N} {s : Nat} (h : zst L S I R) (hs : s ∉ L) (e1 : S1 = nu S (zA s) (some (zcd s, zln s))) (e2 : I1 = nu I (zA s) (fun _ => 0)) (e3 : R1 = nu R (zA s) (fun _ => none)) (e4 : R2 = ru R1 zM s (some (zA s))) : zst (s :: L) S1 I1 R2 := by
  obtain ⟨h1, h2, h3, h4⟩ := h
  subst e1 e2 e3 e4
  have hMs : ∀ t : Nat, (zM : nh_N) ≠ zA t := fun t q => by simp [zM, zA] at q
  refine ⟨by rw [nu_n _ _ (hMs s)]; exact h1, fun t ht => ?_, fun t ht => ?_, fun t => by rw [nu_n _ _ (hMs s)]; exact h4 t⟩
  · by_cases e : t = s
    · subst e
      refine ⟨by rw [ru_e]; simp, by rw [nu_s], fun j => by rw [nu_s]⟩
    · have hne : (zA t : nh_N) ≠ zA s := fun q => e (by simp [zA] at q; exact q)
      rcases List.mem_cons.mp ht with q | q
      · exact absurd q e
      · obtain ⟨a1, a2, a3⟩ := h2 t q
        refine ⟨by rw [ru_e, if_neg (fun q => e q.2), nu_n _ _ (hMs s)]; exact a1, by rw [nu_n _ _ hne]; exact a2, fun j => by rw [nu_n _ _ hne]; exact a3 j⟩
  · have hne : (zA t : nh_N) ≠ zA s := fun q => ht (by simp [zA] at q; rw [q]; exact List.mem_cons_self)
    rw [nu_n _ _ hne]
    exact h3 t (fun q => ht (List.mem_cons_of_mem _ q))
def zroom (a : Int32) : Int32 := if 1 ≤ a then (if a ≤ 30000 then a else 30000) else 1
/-- all is 0 but the room -/
def zini (I : (nh_N → Nat → Int32)) (a : Int32) : Prop := I zM 0 = zroom a ∧ (∀ s, s ≠ 0 → I zM s = 0) ∧ ∀ s, s ∈ ([27, 26, 24, 22, 21, 20, 19, 16, 15, 14, 12, 11, 10, 9, 8, 7, 5, 4, 3, 2] : List Nat) → ∀ j, I (zA s) j = 0
theorem zini_of {S : nh_N → Option nh_C} {I I2 : (nh_N → Nat → Int32)} {R : nh_N → Nat → Option nh_N} {a x : Int32} (h : zst [27, 26, 24, 22, 21, 20, 19, 16, 15, 14, 12, 11, 10, 9, 8, 7, 5, 4, 3, 2] S I R) (e : I2 = iu I zM 0 x) (hx : x = zroom a) : zini I2 a := by
  subst e hx
  refine ⟨by rw [iu_e]; simp, fun s hs => by rw [iu_e, if_neg (fun q => hs q.2)]; exact h.2.2.2 s, fun s hs j => ?_⟩
  rw [iu_e, if_neg (fun q => by have := q.1; simp [zM, zA] at this)]
  exact (h.2.1 s hs).2.2 j
theorem zSh_of {S : nh_N → Option nh_C} {I : (nh_N → Nat → Int32)} {R : nh_N → Nat → Option nh_N} (h : zst [27, 26, 24, 22, 21, 20, 19, 16, 15, 14, 12, 11, 10, 9, 8, 7, 5, 4, 3, 2] S I R) : zSh S R :=
  ⟨h.1, ⟨(h.2.1 2 (by decide)).1, (h.2.1 2 (by decide)).2.1⟩, ⟨(h.2.1 3 (by decide)).1, (h.2.1 3 (by decide)).2.1⟩, ⟨(h.2.1 4 (by decide)).1, (h.2.1 4 (by decide)).2.1⟩, ⟨(h.2.1 5 (by decide)).1, (h.2.1 5 (by decide)).2.1⟩, ⟨(h.2.1 7 (by decide)).1, (h.2.1 7 (by decide)).2.1⟩, ⟨(h.2.1 8 (by decide)).1, (h.2.1 8 (by decide)).2.1⟩, ⟨(h.2.1 9 (by decide)).1, (h.2.1 9 (by decide)).2.1⟩, ⟨(h.2.1 10 (by decide)).1, (h.2.1 10 (by decide)).2.1⟩, ⟨(h.2.1 11 (by decide)).1, (h.2.1 11 (by decide)).2.1⟩, ⟨(h.2.1 12 (by decide)).1, (h.2.1 12 (by decide)).2.1⟩, ⟨(h.2.1 14 (by decide)).1, (h.2.1 14 (by decide)).2.1⟩, ⟨(h.2.1 15 (by decide)).1, (h.2.1 15 (by decide)).2.1⟩, ⟨(h.2.1 16 (by decide)).1, (h.2.1 16 (by decide)).2.1⟩, ⟨(h.2.1 19 (by decide)).1, (h.2.1 19 (by decide)).2.1⟩, ⟨(h.2.1 20 (by decide)).1, (h.2.1 20 (by decide)).2.1⟩, ⟨(h.2.1 21 (by decide)).1, (h.2.1 21 (by decide)).2.1⟩, ⟨(h.2.1 22 (by decide)).1, (h.2.1 22 (by decide)).2.1⟩, ⟨(h.2.1 24 (by decide)).1, (h.2.1 24 (by decide)).2.1⟩, ⟨(h.2.1 26 (by decide)).1, (h.2.1 26 (by decide)).2.1⟩, ⟨(h.2.1 27 (by decide)).1, (h.2.1 27 (by decide)).2.1⟩⟩
set_option maxHeartbeats 8000000 in
set_option maxRecDepth 100000 in
theorem zc_init (l : Launch) (D : va_G) (cA : Nat → ClassId) {S : nh_N → Option nh_C} {g : nh_N → Nat} {I : (nh_N → Nat → Int32)} {R : nh_N → Nat → Option nh_N} (h0 : zst [] S I R) (a : Int32) : im_M l D cA yX6_init vX6_init 1 12 20 38540 [.ref (g zM), .int a] S g I R (fun v S' g' I' R' => v = none ∧ zSh S' R' ∧ g' zM = g zM ∧ zini I' a) := by
  refine nh_of (cc := cX6_init) (maxL := 2) (ret := none) (by decide) rfl (Nat.le_of_ble_eq_true rfl) ?_
  intro p e s m below meth c A ls hx hb hr hml hts hown hlocks hin hK hw hl
  have ht : ∀ w ∈ im_ws, w.before _ s = true := fun w h => hts w (List.mem_cons_of_mem _ h)
  have hl : lv_has ls 2 [(0, .ref (g zM)), (1, .int a)] := hl
  have hA0 : zst [] S I R := h0
  refine lv_aload_n hx hb dX6_init_0 rfl (lv_at hl 0 rfl) ?_
  refine im_objInit hx hb ht hown wm6_1 (by rw [hml]; exact hl.1) (by decide) (by decide) dX6_init_1 ?_
  refine lv_aload_n hx hb dX6_init_4 rfl (lv_at hl 0 rfl) ?_
  refine lv_bipush (v := 8) hx hb dX6_init_5 (by decide) ?_
  refine ai_new (zA 2) ht hx hb hK hw (hA0.2.2.1 2 (by decide)) (by decide) (show _ = 8 from rfl) (by decide) (by decide) (by decide) dX6_init_7 (fun q1 H S1 g1 I1 R1 eS1 eg1 eI1 eR1 hw => ?_)
  have hM1 : S1 zM = some (0, 6) := by rw [eS1, nu_n _ _ (by simp [zM, zA])]; exact hA0.1
  have gM1 : g1 zM = g zM := by rw [eg1, nu_n _ _ (by simp [zM, zA])]
  refine fQ6 hx hb ht hown hK hw hM1 gM1 2 wf6_7 (by decide) rfl hin rfl (some (zA 2)) (fun m hm => ⟨_, by cases hm; rw [eS1, nu_s]⟩) (by simp [va_rf, eg1, nu_s]) rfl rfl rfl dX6_init_9 (fun H locs T1 eT1 hw => ?_)
  have hA1 := zst_step (s := 2) hA0 (by decide) eS1 eI1 eR1 eT1
  clear hA0 eS1 eI1 eR1 eT1 eg1
  refine lv_aload_n hx hb dX6_init_12 rfl (lv_at hl 0 rfl) ?_
  refine lv_bipush (v := 8) hx hb dX6_init_13 (by decide) ?_
  refine ai_new (zA 3) ht hx hb hK hw (hA1.2.2.1 3 (by decide)) (by decide) (show _ = 8 from rfl) (by decide) (by decide) (by decide) dX6_init_15 (fun q2 H S2 g2 I2 R2 eS2 eg2 eI2 eR2 hw => ?_)
  have hM2 : S2 zM = some (0, 6) := by rw [eS2, nu_n _ _ (by simp [zM, zA])]; exact hA1.1
  have gM2 : g2 zM = g zM := by rw [eg2, nu_n _ _ (by simp [zM, zA])]; exact gM1
  refine fQ6 hx hb ht hown hK hw hM2 gM2 3 wf6_13 (by decide) rfl hin rfl (some (zA 3)) (fun m hm => ⟨_, by cases hm; rw [eS2, nu_s]⟩) (by simp [va_rf, eg2, nu_s]) rfl rfl rfl dX6_init_17 (fun H locs T2 eT2 hw => ?_)
  have hA2 := zst_step (s := 3) hA1 (by decide) eS2 eI2 eR2 eT2
  clear hA1 eS2 eI2 eR2 eT2 eg2
  refine lv_aload_n hx hb dX6_init_20 rfl (lv_at hl 0 rfl) ?_
  refine lv_bipush (v := 8) hx hb dX6_init_21 (by decide) ?_
  refine az_new (zA 4) ht hx hb hK hw (hA2.2.2.1 4 (by decide)) (by decide) (show _ = 8 from rfl) (by decide) (by decide) (by decide) dX6_init_23 (fun q3 H S3 g3 I3 R3 eS3 eg3 eI3 eR3 hw => ?_)
  have hM3 : S3 zM = some (0, 6) := by rw [eS3, nu_n _ _ (by simp [zM, zA])]; exact hA2.1
  have gM3 : g3 zM = g zM := by rw [eg3, nu_n _ _ (by simp [zM, zA])]; exact gM2
  refine fQ6 hx hb ht hown hK hw hM3 gM3 4 wf6_16 (by decide) rfl hin rfl (some (zA 4)) (fun m hm => ⟨_, by cases hm; rw [eS3, nu_s]⟩) (by simp [va_rf, eg3, nu_s]) rfl rfl rfl dX6_init_25 (fun H locs T3 eT3 hw => ?_)
  have hA3 := zst_step (s := 4) hA2 (by decide) eS3 eI3 eR3 eT3
  clear hA2 eS3 eI3 eR3 eT3 eg3
  refine lv_aload_n hx hb dX6_init_28 rfl (lv_at hl 0 rfl) ?_
  refine lv_bipush (v := 8) hx hb dX6_init_29 (by decide) ?_
  refine ai_new (zA 5) ht hx hb hK hw (hA3.2.2.1 5 (by decide)) (by decide) (show _ = 8 from rfl) (by decide) (by decide) (by decide) dX6_init_31 (fun q4 H S4 g4 I4 R4 eS4 eg4 eI4 eR4 hw => ?_)
  have hM4 : S4 zM = some (0, 6) := by rw [eS4, nu_n _ _ (by simp [zM, zA])]; exact hA3.1
  have gM4 : g4 zM = g zM := by rw [eg4, nu_n _ _ (by simp [zM, zA])]; exact gM3
  refine fQ6 hx hb ht hown hK hw hM4 gM4 5 wf6_20 (by decide) rfl hin rfl (some (zA 5)) (fun m hm => ⟨_, by cases hm; rw [eS4, nu_s]⟩) (by simp [va_rf, eg4, nu_s]) rfl rfl rfl dX6_init_33 (fun H locs T4 eT4 hw => ?_)
  have hA4 := zst_step (s := 5) hA3 (by decide) eS4 eI4 eR4 eT4
  clear hA3 eS4 eI4 eR4 eT4 eg4
  refine lv_aload_n hx hb dX6_init_36 rfl (lv_at hl 0 rfl) ?_
  refine lv_sipush (v := 200) hx hb dX6_init_37 (by decide) ?_
  refine ai_new (zA 7) ht hx hb hK hw (hA4.2.2.1 7 (by decide)) (by decide) (show _ = 200 from rfl) (by decide) (by decide) (by decide) dX6_init_40 (fun q5 H S5 g5 I5 R5 eS5 eg5 eI5 eR5 hw => ?_)
  have hM5 : S5 zM = some (0, 6) := by rw [eS5, nu_n _ _ (by simp [zM, zA])]; exact hA4.1
  have gM5 : g5 zM = g zM := by rw [eg5, nu_n _ _ (by simp [zM, zA])]; exact gM4
  refine fQ6 hx hb ht hown hK hw hM5 gM5 7 wf6_23 (by decide) rfl hin rfl (some (zA 7)) (fun m hm => ⟨_, by cases hm; rw [eS5, nu_s]⟩) (by simp [va_rf, eg5, nu_s]) rfl rfl rfl dX6_init_42 (fun H locs T5 eT5 hw => ?_)
  have hA5 := zst_step (s := 7) hA4 (by decide) eS5 eI5 eR5 eT5
  clear hA4 eS5 eI5 eR5 eT5 eg5
  refine lv_aload_n hx hb dX6_init_45 rfl (lv_at hl 0 rfl) ?_
  refine lv_sipush (v := 200) hx hb dX6_init_46 (by decide) ?_
  refine ai_new (zA 8) ht hx hb hK hw (hA5.2.2.1 8 (by decide)) (by decide) (show _ = 200 from rfl) (by decide) (by decide) (by decide) dX6_init_49 (fun q6 H S6 g6 I6 R6 eS6 eg6 eI6 eR6 hw => ?_)
  have hM6 : S6 zM = some (0, 6) := by rw [eS6, nu_n _ _ (by simp [zM, zA])]; exact hA5.1
  have gM6 : g6 zM = g zM := by rw [eg6, nu_n _ _ (by simp [zM, zA])]; exact gM5
  refine fQ6 hx hb ht hown hK hw hM6 gM6 8 wf6_26 (by decide) rfl hin rfl (some (zA 8)) (fun m hm => ⟨_, by cases hm; rw [eS6, nu_s]⟩) (by simp [va_rf, eg6, nu_s]) rfl rfl rfl dX6_init_51 (fun H locs T6 eT6 hw => ?_)
  have hA6 := zst_step (s := 8) hA5 (by decide) eS6 eI6 eR6 eT6
  clear hA5 eS6 eI6 eR6 eT6 eg6
  refine lv_aload_n hx hb dX6_init_54 rfl (lv_at hl 0 rfl) ?_
  refine lv_sipush (v := 200) hx hb dX6_init_55 (by decide) ?_
  refine ai_new (zA 9) ht hx hb hK hw (hA6.2.2.1 9 (by decide)) (by decide) (show _ = 200 from rfl) (by decide) (by decide) (by decide) dX6_init_58 (fun q7 H S7 g7 I7 R7 eS7 eg7 eI7 eR7 hw => ?_)
  have hM7 : S7 zM = some (0, 6) := by rw [eS7, nu_n _ _ (by simp [zM, zA])]; exact hA6.1
  have gM7 : g7 zM = g zM := by rw [eg7, nu_n _ _ (by simp [zM, zA])]; exact gM6
  refine fQ6 hx hb ht hown hK hw hM7 gM7 9 wf6_29 (by decide) rfl hin rfl (some (zA 9)) (fun m hm => ⟨_, by cases hm; rw [eS7, nu_s]⟩) (by simp [va_rf, eg7, nu_s]) rfl rfl rfl dX6_init_60 (fun H locs T7 eT7 hw => ?_)
  have hA7 := zst_step (s := 9) hA6 (by decide) eS7 eI7 eR7 eT7
  clear hA6 eS7 eI7 eR7 eT7 eg7
  refine lv_aload_n hx hb dX6_init_63 rfl (lv_at hl 0 rfl) ?_
  refine lv_sipush (v := 200) hx hb dX6_init_64 (by decide) ?_
  refine ai_new (zA 10) ht hx hb hK hw (hA7.2.2.1 10 (by decide)) (by decide) (show _ = 200 from rfl) (by decide) (by decide) (by decide) dX6_init_67 (fun q8 H S8 g8 I8 R8 eS8 eg8 eI8 eR8 hw => ?_)
  have hM8 : S8 zM = some (0, 6) := by rw [eS8, nu_n _ _ (by simp [zM, zA])]; exact hA7.1
  have gM8 : g8 zM = g zM := by rw [eg8, nu_n _ _ (by simp [zM, zA])]; exact gM7
  refine fQ6 hx hb ht hown hK hw hM8 gM8 10 wf6_32 (by decide) rfl hin rfl (some (zA 10)) (fun m hm => ⟨_, by cases hm; rw [eS8, nu_s]⟩) (by simp [va_rf, eg8, nu_s]) rfl rfl rfl dX6_init_69 (fun H locs T8 eT8 hw => ?_)
  have hA8 := zst_step (s := 10) hA7 (by decide) eS8 eI8 eR8 eT8
  clear hA7 eS8 eI8 eR8 eT8 eg8
  refine lv_aload_n hx hb dX6_init_72 rfl (lv_at hl 0 rfl) ?_
  refine lv_sipush (v := 200) hx hb dX6_init_73 (by decide) ?_
  refine az_new (zA 11) ht hx hb hK hw (hA8.2.2.1 11 (by decide)) (by decide) (show _ = 200 from rfl) (by decide) (by decide) (by decide) dX6_init_76 (fun q9 H S9 g9 I9 R9 eS9 eg9 eI9 eR9 hw => ?_)
  have hM9 : S9 zM = some (0, 6) := by rw [eS9, nu_n _ _ (by simp [zM, zA])]; exact hA8.1
  have gM9 : g9 zM = g zM := by rw [eg9, nu_n _ _ (by simp [zM, zA])]; exact gM8
  refine fQ6 hx hb ht hown hK hw hM9 gM9 11 wf6_35 (by decide) rfl hin rfl (some (zA 11)) (fun m hm => ⟨_, by cases hm; rw [eS9, nu_s]⟩) (by simp [va_rf, eg9, nu_s]) rfl rfl rfl dX6_init_78 (fun H locs T9 eT9 hw => ?_)
  have hA9 := zst_step (s := 11) hA8 (by decide) eS9 eI9 eR9 eT9
  clear hA8 eS9 eI9 eR9 eT9 eg9
  refine lv_aload_n hx hb dX6_init_81 rfl (lv_at hl 0 rfl) ?_
  refine lv_sipush (v := 200) hx hb dX6_init_82 (by decide) ?_
  refine ai_new (zA 12) ht hx hb hK hw (hA9.2.2.1 12 (by decide)) (by decide) (show _ = 200 from rfl) (by decide) (by decide) (by decide) dX6_init_85 (fun q10 H S10 g10 I10 R10 eS10 eg10 eI10 eR10 hw => ?_)
  have hM10 : S10 zM = some (0, 6) := by rw [eS10, nu_n _ _ (by simp [zM, zA])]; exact hA9.1
  have gM10 : g10 zM = g zM := by rw [eg10, nu_n _ _ (by simp [zM, zA])]; exact gM9
  refine fQ6 hx hb ht hown hK hw hM10 gM10 12 wf6_38 (by decide) rfl hin rfl (some (zA 12)) (fun m hm => ⟨_, by cases hm; rw [eS10, nu_s]⟩) (by simp [va_rf, eg10, nu_s]) rfl rfl rfl dX6_init_87 (fun H locs T10 eT10 hw => ?_)
  have hA10 := zst_step (s := 12) hA9 (by decide) eS10 eI10 eR10 eT10
  clear hA9 eS10 eI10 eR10 eT10 eg10
  refine lv_aload_n hx hb dX6_init_90 rfl (lv_at hl 0 rfl) ?_
  refine lv_sipush (v := 300) hx hb dX6_init_91 (by decide) ?_
  refine ai_new (zA 14) ht hx hb hK hw (hA10.2.2.1 14 (by decide)) (by decide) (show _ = 300 from rfl) (by decide) (by decide) (by decide) dX6_init_94 (fun q11 H S11 g11 I11 R11 eS11 eg11 eI11 eR11 hw => ?_)
  have hM11 : S11 zM = some (0, 6) := by rw [eS11, nu_n _ _ (by simp [zM, zA])]; exact hA10.1
  have gM11 : g11 zM = g zM := by rw [eg11, nu_n _ _ (by simp [zM, zA])]; exact gM10
  refine fQ6 hx hb ht hown hK hw hM11 gM11 14 wf6_41 (by decide) rfl hin rfl (some (zA 14)) (fun m hm => ⟨_, by cases hm; rw [eS11, nu_s]⟩) (by simp [va_rf, eg11, nu_s]) rfl rfl rfl dX6_init_96 (fun H locs T11 eT11 hw => ?_)
  have hA11 := zst_step (s := 14) hA10 (by decide) eS11 eI11 eR11 eT11
  clear hA10 eS11 eI11 eR11 eT11 eg11
  refine lv_aload_n hx hb dX6_init_99 rfl (lv_at hl 0 rfl) ?_
  refine lv_sipush (v := 300) hx hb dX6_init_100 (by decide) ?_
  refine ai_new (zA 15) ht hx hb hK hw (hA11.2.2.1 15 (by decide)) (by decide) (show _ = 300 from rfl) (by decide) (by decide) (by decide) dX6_init_103 (fun q12 H S12 g12 I12 R12 eS12 eg12 eI12 eR12 hw => ?_)
  have hM12 : S12 zM = some (0, 6) := by rw [eS12, nu_n _ _ (by simp [zM, zA])]; exact hA11.1
  have gM12 : g12 zM = g zM := by rw [eg12, nu_n _ _ (by simp [zM, zA])]; exact gM11
  refine fQ6 hx hb ht hown hK hw hM12 gM12 15 wf6_44 (by decide) rfl hin rfl (some (zA 15)) (fun m hm => ⟨_, by cases hm; rw [eS12, nu_s]⟩) (by simp [va_rf, eg12, nu_s]) rfl rfl rfl dX6_init_105 (fun H locs T12 eT12 hw => ?_)
  have hA12 := zst_step (s := 15) hA11 (by decide) eS12 eI12 eR12 eT12
  clear hA11 eS12 eI12 eR12 eT12 eg12
  refine lv_aload_n hx hb dX6_init_108 rfl (lv_at hl 0 rfl) ?_
  refine lv_sipush (v := 300) hx hb dX6_init_109 (by decide) ?_
  refine ai_new (zA 16) ht hx hb hK hw (hA12.2.2.1 16 (by decide)) (by decide) (show _ = 300 from rfl) (by decide) (by decide) (by decide) dX6_init_112 (fun q13 H S13 g13 I13 R13 eS13 eg13 eI13 eR13 hw => ?_)
  have hM13 : S13 zM = some (0, 6) := by rw [eS13, nu_n _ _ (by simp [zM, zA])]; exact hA12.1
  have gM13 : g13 zM = g zM := by rw [eg13, nu_n _ _ (by simp [zM, zA])]; exact gM12
  refine fQ6 hx hb ht hown hK hw hM13 gM13 16 wf6_47 (by decide) rfl hin rfl (some (zA 16)) (fun m hm => ⟨_, by cases hm; rw [eS13, nu_s]⟩) (by simp [va_rf, eg13, nu_s]) rfl rfl rfl dX6_init_114 (fun H locs T13 eT13 hw => ?_)
  have hA13 := zst_step (s := 16) hA12 (by decide) eS13 eI13 eR13 eT13
  clear hA12 eS13 eI13 eR13 eT13 eg13
  refine lv_aload_n hx hb dX6_init_117 rfl (lv_at hl 0 rfl) ?_
  refine lv_sipush (v := 9000) hx hb dX6_init_118 (by decide) ?_
  refine ai_new (zA 19) ht hx hb hK hw (hA13.2.2.1 19 (by decide)) (by decide) (show _ = 9000 from rfl) (by decide) (by decide) (by decide) dX6_init_121 (fun q14 H S14 g14 I14 R14 eS14 eg14 eI14 eR14 hw => ?_)
  have hM14 : S14 zM = some (0, 6) := by rw [eS14, nu_n _ _ (by simp [zM, zA])]; exact hA13.1
  have gM14 : g14 zM = g zM := by rw [eg14, nu_n _ _ (by simp [zM, zA])]; exact gM13
  refine fQ6 hx hb ht hown hK hw hM14 gM14 19 wf6_50 (by decide) rfl hin rfl (some (zA 19)) (fun m hm => ⟨_, by cases hm; rw [eS14, nu_s]⟩) (by simp [va_rf, eg14, nu_s]) rfl rfl rfl dX6_init_123 (fun H locs T14 eT14 hw => ?_)
  have hA14 := zst_step (s := 19) hA13 (by decide) eS14 eI14 eR14 eT14
  clear hA13 eS14 eI14 eR14 eT14 eg14
  refine lv_aload_n hx hb dX6_init_126 rfl (lv_at hl 0 rfl) ?_
  refine lv_sipush (v := 9000) hx hb dX6_init_127 (by decide) ?_
  refine ai_new (zA 20) ht hx hb hK hw (hA14.2.2.1 20 (by decide)) (by decide) (show _ = 9000 from rfl) (by decide) (by decide) (by decide) dX6_init_130 (fun q15 H S15 g15 I15 R15 eS15 eg15 eI15 eR15 hw => ?_)
  have hM15 : S15 zM = some (0, 6) := by rw [eS15, nu_n _ _ (by simp [zM, zA])]; exact hA14.1
  have gM15 : g15 zM = g zM := by rw [eg15, nu_n _ _ (by simp [zM, zA])]; exact gM14
  refine fQ6 hx hb ht hown hK hw hM15 gM15 20 wf6_53 (by decide) rfl hin rfl (some (zA 20)) (fun m hm => ⟨_, by cases hm; rw [eS15, nu_s]⟩) (by simp [va_rf, eg15, nu_s]) rfl rfl rfl dX6_init_132 (fun H locs T15 eT15 hw => ?_)
  have hA15 := zst_step (s := 20) hA14 (by decide) eS15 eI15 eR15 eT15
  clear hA14 eS15 eI15 eR15 eT15 eg15
  refine lv_aload_n hx hb dX6_init_135 rfl (lv_at hl 0 rfl) ?_
  refine lv_sipush (v := 9000) hx hb dX6_init_136 (by decide) ?_
  refine ai_new (zA 21) ht hx hb hK hw (hA15.2.2.1 21 (by decide)) (by decide) (show _ = 9000 from rfl) (by decide) (by decide) (by decide) dX6_init_139 (fun q16 H S16 g16 I16 R16 eS16 eg16 eI16 eR16 hw => ?_)
  have hM16 : S16 zM = some (0, 6) := by rw [eS16, nu_n _ _ (by simp [zM, zA])]; exact hA15.1
  have gM16 : g16 zM = g zM := by rw [eg16, nu_n _ _ (by simp [zM, zA])]; exact gM15
  refine fQ6 hx hb ht hown hK hw hM16 gM16 21 wf6_56 (by decide) rfl hin rfl (some (zA 21)) (fun m hm => ⟨_, by cases hm; rw [eS16, nu_s]⟩) (by simp [va_rf, eg16, nu_s]) rfl rfl rfl dX6_init_141 (fun H locs T16 eT16 hw => ?_)
  have hA16 := zst_step (s := 21) hA15 (by decide) eS16 eI16 eR16 eT16
  clear hA15 eS16 eI16 eR16 eT16 eg16
  refine lv_aload_n hx hb dX6_init_144 rfl (lv_at hl 0 rfl) ?_
  refine lv_sipush (v := 9000) hx hb dX6_init_145 (by decide) ?_
  refine az_new (zA 22) ht hx hb hK hw (hA16.2.2.1 22 (by decide)) (by decide) (show _ = 9000 from rfl) (by decide) (by decide) (by decide) dX6_init_148 (fun q17 H S17 g17 I17 R17 eS17 eg17 eI17 eR17 hw => ?_)
  have hM17 : S17 zM = some (0, 6) := by rw [eS17, nu_n _ _ (by simp [zM, zA])]; exact hA16.1
  have gM17 : g17 zM = g zM := by rw [eg17, nu_n _ _ (by simp [zM, zA])]; exact gM16
  refine fQ6 hx hb ht hown hK hw hM17 gM17 22 wf6_59 (by decide) rfl hin rfl (some (zA 22)) (fun m hm => ⟨_, by cases hm; rw [eS17, nu_s]⟩) (by simp [va_rf, eg17, nu_s]) rfl rfl rfl dX6_init_150 (fun H locs T17 eT17 hw => ?_)
  have hA17 := zst_step (s := 22) hA16 (by decide) eS17 eI17 eR17 eT17
  clear hA16 eS17 eI17 eR17 eT17 eg17
  refine lv_aload_n hx hb dX6_init_153 rfl (lv_at hl 0 rfl) ?_
  refine lv_sipush (v := 200) hx hb dX6_init_154 (by decide) ?_
  refine ai_new (zA 24) ht hx hb hK hw (hA17.2.2.1 24 (by decide)) (by decide) (show _ = 200 from rfl) (by decide) (by decide) (by decide) dX6_init_157 (fun q18 H S18 g18 I18 R18 eS18 eg18 eI18 eR18 hw => ?_)
  have hM18 : S18 zM = some (0, 6) := by rw [eS18, nu_n _ _ (by simp [zM, zA])]; exact hA17.1
  have gM18 : g18 zM = g zM := by rw [eg18, nu_n _ _ (by simp [zM, zA])]; exact gM17
  refine fQ6 hx hb ht hown hK hw hM18 gM18 24 wf6_62 (by decide) rfl hin rfl (some (zA 24)) (fun m hm => ⟨_, by cases hm; rw [eS18, nu_s]⟩) (by simp [va_rf, eg18, nu_s]) rfl rfl rfl dX6_init_159 (fun H locs T18 eT18 hw => ?_)
  have hA18 := zst_step (s := 24) hA17 (by decide) eS18 eI18 eR18 eT18
  clear hA17 eS18 eI18 eR18 eT18 eg18
  refine lv_aload_n hx hb dX6_init_162 rfl (lv_at hl 0 rfl) ?_
  refine lv_sipush (v := 200) hx hb dX6_init_163 (by decide) ?_
  refine ai_new (zA 26) ht hx hb hK hw (hA18.2.2.1 26 (by decide)) (by decide) (show _ = 200 from rfl) (by decide) (by decide) (by decide) dX6_init_166 (fun q19 H S19 g19 I19 R19 eS19 eg19 eI19 eR19 hw => ?_)
  have hM19 : S19 zM = some (0, 6) := by rw [eS19, nu_n _ _ (by simp [zM, zA])]; exact hA18.1
  have gM19 : g19 zM = g zM := by rw [eg19, nu_n _ _ (by simp [zM, zA])]; exact gM18
  refine fQ6 hx hb ht hown hK hw hM19 gM19 26 wf6_65 (by decide) rfl hin rfl (some (zA 26)) (fun m hm => ⟨_, by cases hm; rw [eS19, nu_s]⟩) (by simp [va_rf, eg19, nu_s]) rfl rfl rfl dX6_init_168 (fun H locs T19 eT19 hw => ?_)
  have hA19 := zst_step (s := 26) hA18 (by decide) eS19 eI19 eR19 eT19
  clear hA18 eS19 eI19 eR19 eT19 eg19
  refine lv_aload_n hx hb dX6_init_171 rfl (lv_at hl 0 rfl) ?_
  refine lv_bipush (v := 8) hx hb dX6_init_172 (by decide) ?_
  refine az_new (zA 27) ht hx hb hK hw (hA19.2.2.1 27 (by decide)) (by decide) (show _ = 8 from rfl) (by decide) (by decide) (by decide) dX6_init_174 (fun q20 H S20 g20 I20 R20 eS20 eg20 eI20 eR20 hw => ?_)
  have hM20 : S20 zM = some (0, 6) := by rw [eS20, nu_n _ _ (by simp [zM, zA])]; exact hA19.1
  have gM20 : g20 zM = g zM := by rw [eg20, nu_n _ _ (by simp [zM, zA])]; exact gM19
  refine fQ6 hx hb ht hown hK hw hM20 gM20 27 wf6_68 (by decide) rfl hin rfl (some (zA 27)) (fun m hm => ⟨_, by cases hm; rw [eS20, nu_s]⟩) (by simp [va_rf, eg20, nu_s]) rfl rfl rfl dX6_init_176 (fun H locs T20 eT20 hw => ?_)
  have hA20 := zst_step (s := 27) hA19 (by decide) eS20 eI20 eR20 eT20
  clear hA19 eS20 eI20 eR20 eT20 eg20
  refine lv_aload_n hx hb dX6_init_179 rfl (lv_at hl 0 rfl) ?_
  have hM := hA20.1
  have hz9 : zSh S20 T20 := zSh_of hA20
  refine lv_iload_n hx hb dX6_init_180 rfl (lv_at hl 1 rfl) ?_
  refine lv_iconst (v := 1) hx hb dX6_init_181 (by decide) ?_
  refine lv_icmp_ge (tgt := 189) hx hb dX6_init_182 (by decide) (fun c182 => ?_) (fun c182 => ?_)
  · refine lv_iload_n hx hb dX6_init_189 rfl (lv_at hl 1 rfl) ?_
    refine lv_sipush (v := 30000) hx hb dX6_init_190 (by decide) ?_
    refine lv_icmp_le (tgt := 202) hx hb dX6_init_193 (by decide) (fun c193 => ?_) (fun c193 => ?_)
    · refine lv_iload_n hx hb dX6_init_202 rfl (lv_at hl 1 rfl) ?_
      refine fP6 hx hb ht hown hK hw hM gM20 0 wf6_71 (by decide) rfl hin rfl rfl rfl rfl dX6_init_203 (fun H locs I99 eI99 hw => ?_)
      refine nh_vret hx hb hr hlocks hw (by decide) (by decide) dX6_init_206 ?_
      exact ⟨rfl, hz9, gM20, (zini_of hA20 eI99 (by simp only [zroom, if_pos c182, if_pos c193]))⟩
    · refine lv_sipush (v := 30000) hx hb dX6_init_196 (by decide) ?_
      refine lv_goto (tgt := 203) hx hb dX6_init_199 (by decide) ?_
      refine fP6 hx hb ht hown hK hw hM gM20 0 wf6_71 (by decide) rfl hin rfl rfl rfl rfl dX6_init_203 (fun H locs I99 eI99 hw => ?_)
      refine nh_vret hx hb hr hlocks hw (by decide) (by decide) dX6_init_206 ?_
      exact ⟨rfl, hz9, gM20, (zini_of hA20 eI99 (by simp only [zroom, if_pos c182, if_neg c193]))⟩
  · refine lv_iconst (v := 1) hx hb dX6_init_185 (by decide) ?_
    refine lv_goto (tgt := 203) hx hb dX6_init_186 (by decide) ?_
    refine fP6 hx hb ht hown hK hw hM gM20 0 wf6_71 (by decide) rfl hin rfl rfl rfl rfl dX6_init_203 (fun H locs I99 eI99 hw => ?_)
    refine nh_vret hx hb hr hlocks hw (by decide) (by decide) dX6_init_206 ?_
    exact ⟨rfl, hz9, gM20, (zini_of hA20 eI99 (by simp only [zroom, if_neg c182]))⟩
end
section
/-! THE SYSTEM'S CELLS, by name -/
abbrev xX : nh_N := (0, 0, 0)
abbrev xKA : nh_N := (1, 0, 0)
abbrev xIA : nh_N := (2, 0, 0)
abbrev xPA : nh_N := (3, 0, 0)
abbrev xLN : nh_N := (4, 0, 0)
abbrev xLR : nh_N := (5, 0, 0)
abbrev xK (k : Nat) : nh_N := (6, k, 0)
abbrev xSO (k : Nat) : nh_N := (7, k, 0)
abbrev xHM (k : Nat) : nh_N := (8, k, 0)
abbrev xFT (k : Nat) : nh_N := (9, k, 0)
abbrev xLT (k : Nat) : nh_N := (10, k, 0)
abbrev xN (i : Nat) : nh_N := (11, i, 0)
abbrev xP (p : Nat) : nh_N := (12, p, 0)
abbrev xPP (p : Nat) : nh_N := (13, p, 0)
abbrev xQ (p j : Nat) : nh_N := (14, p, j)
def xKs (S : nh_N → Option nh_C) (R : nh_N → Nat → Option nh_N) (k : Nat) : Prop := S (xK k) = some (0, 1) ∧ R (xK k) 3 = some (xSO k) ∧ S (xSO k) = some (1, 40) ∧ R (xK k) 4 = some (xHM k) ∧ S (xHM k) = some (2, 40) ∧ R (xK k) 5 = some (xFT k) ∧ S (xFT k) = some (1, 40) ∧ R (xK k) 6 = some (xLT k) ∧ S (xLT k) = some (1, 40)
def xLs (S : nh_N → Option nh_C) (R : nh_N → Nat → Option nh_N) : Prop := S xLN = some (0, 2) ∧ R xLN 0 = some xLR ∧ S xLR = some (1, 200)
def xNs (S : nh_N → Option nh_C) (R : nh_N → Nat → Option nh_N) (i k : Nat) : Prop := S (xN i) = some (0, 0) ∧ R (xN i) 1 = some (xK k)
def xPs (S : nh_N → Option nh_C) (R : nh_N → Nat → Option nh_N) (q n : Nat) : Prop := S (xP q) = some (0, 3) ∧ R (xP q) 1 = some (xPP q) ∧ S (xPP q) = some (6, n)
def xXs (S : nh_N → Option nh_C) (R : nh_N → Nat → Option nh_N) : Prop := S xX = some (0, 5) ∧ R xX 1 = some xKA ∧ S xKA = some (3, 8) ∧ R xX 2 = some xIA ∧ S xIA = some (4, 200) ∧ R xX 3 = some xPA ∧ S xPA = some (5, 40) ∧ R xX 4 = some xLN ∧ xLs S R
def xf_isWithin (J : (nh_N → Nat → Int32))  (a : Int32) (b : Int32) (d : Int32) : Int32 := (if a < b then 0 else (if d < a then 0 else 1))
set_option maxHeartbeats 4000000 in
set_option maxRecDepth 100000 in
theorem cxf_isWithin (l : Launch) (D : va_G) (cA : Nat → ClassId) {S : nh_N → Option nh_C} {g : nh_N → Nat} {J : (nh_N → Nat → Int32)} {R : nh_N → Nat → Option nh_N}   (a : Int32) (b : Int32) (d : Int32)  : im_M l D cA yX5_isWithin vX5_isWithin 0 0 0 0 [.int a, .int b, .int d] S g J R (im_eq (some (.int (xf_isWithin J a b d))) S g J R) := by
  refine nh_of (cc := cX5_isWithin) (maxL := 3) (ret := (some .boolean)) (by decide) rfl (Nat.le_of_ble_eq_true rfl) ?_
  intro p e s m below meth c A ls hx hb hr hml hts hown hlocks hin hK hw hl
  have ht : ∀ w ∈ im_ws, w.before _ s = true := fun w h => hts w (List.mem_cons_of_mem _ h)
  have hl : lv_has ls 3 [(0, .int a), (1, .int b), (2, .int d)] := hl
  refine lv_iload_n hx hb dX5_isWithin_0 rfl (lv_at hl 1 rfl) ?_
  refine lv_iload_n hx hb dX5_isWithin_1 rfl (lv_at hl 0 rfl) ?_
  refine lv_icmp_gt (tgt := 14) hx hb dX5_isWithin_2 (by decide) (fun c2 => ?_) (fun c2 => ?_)
  · refine lv_iconst (v := 0) hx hb dX5_isWithin_14 (by decide) ?_
    refine nh_iret hx hb hr rfl hlocks hw (Nat.zero_le _) (Nat.zero_le _) dX5_isWithin_15 ?_
    simp only [xf_isWithin, if_pos c2]
    exact im_fin rfl rfl
  · refine lv_iload_n hx hb dX5_isWithin_5 rfl (lv_at hl 0 rfl) ?_
    refine lv_iload_n hx hb dX5_isWithin_6 rfl (lv_at hl 2 rfl) ?_
    refine lv_icmp_gt (tgt := 14) hx hb dX5_isWithin_7 (by decide) (fun c7 => ?_) (fun c7 => ?_)
    · refine lv_iconst (v := 0) hx hb dX5_isWithin_14 (by decide) ?_
      refine nh_iret hx hb hr rfl hlocks hw (Nat.zero_le _) (Nat.zero_le _) dX5_isWithin_15 ?_
      simp only [xf_isWithin, if_neg c2, if_pos c7]
      exact im_fin rfl rfl
    · refine lv_iconst (v := 1) hx hb dX5_isWithin_10 (by decide) ?_
      refine lv_goto (tgt := 15) hx hb dX5_isWithin_11 (by decide) ?_
      refine nh_iret hx hb hr rfl hlocks hw (Nat.zero_le _) (Nat.zero_le _) dX5_isWithin_15 ?_
      simp only [xf_isWithin, if_neg c2, if_neg c7]
      exact im_fin rfl rfl
theorem xb_isWithin (J : nh_N → Nat → Int32) (a b d : Int32) : xf_isWithin J a b d = 0 ∨ xf_isWithin J a b d = 1 := by
  unfold xf_isWithin
  split <;> (try split) <;> simp
def xf_isPage (J : (nh_N → Nat → Int32))  (a : Int32) : Int32 := (xf_isWithin J a 0 39)
set_option maxHeartbeats 4000000 in
set_option maxRecDepth 100000 in
theorem cxf_isPage (l : Launch) (D : va_G) (cA : Nat → ClassId) {S : nh_N → Option nh_C} {g : nh_N → Nat} {J : (nh_N → Nat → Int32)} {R : nh_N → Nat → Option nh_N}   (a : Int32)  : im_M l D cA yX5_isPage vX5_isPage 1 22 0 0 [.int a] S g J R (im_eq (some (.int (xf_isPage J a))) S g J R) := by
  refine nh_of (cc := cX5_isPage) (maxL := 1) (ret := (some .boolean)) (by decide) rfl (Nat.le_of_ble_eq_true rfl) ?_
  intro p e s m below meth c A ls hx hb hr hml hts hown hlocks hin hK hw hl
  have ht : ∀ w ∈ im_ws, w.before _ s = true := fun w h => hts w (List.mem_cons_of_mem _ h)
  have hl : lv_has ls 1 [(0, .int a)] := hl
  refine lv_iload_n hx hb dX5_isPage_0 rfl (lv_at hl 0 rfl) ?_
  refine lv_iconst (v := 0) hx hb dX5_isPage_1 (by decide) ?_
  refine lv_bipush (v := 39) hx hb dX5_isPage_2 (by decide) ?_
  refine kcX5_isWithin (As := [.int a, .int 0, .int 39]) (rest := []) wm5_47 (cxf_isWithin l D cA a 0 39) hx hb hml ht hown hK hw rfl hl.1 rfl (by simp [Value.category]) ⟨by decide, by decide⟩ ⟨by simp, by simp⟩ dX5_isPage_4 (fun v S1 g1 I1 R1 H locs hp hw => ?_)
  obtain ⟨rfl, h1, h2, h3, h4⟩ := hp
  rw [h1, h2, h3, h4] at hw
  clear h1 h2 h3 h4
  show W _ _ _ _ _ _ _ _ _ _ _ _ _ _ _ (F0 m 7 ls [.int (xf_isWithin J a 0 39)])
  refine nh_iret hx hb hr (nb_of (xb_isWithin _ _ _ _)) hlocks hw (Nat.zero_le _) (Nat.zero_le _) dX5_isPage_7 ?_
  exact im_fin rfl rfl
theorem xb_isPage (J : nh_N → Nat → Int32) (a : Int32) : xf_isPage J a = 0 ∨ xf_isPage J a = 1 := xb_isWithin _ _ _ _
def xf_isClosed (J : (nh_N → Nat → Int32))  (a : Int32) : Int32 := (if (J xX 8) ≤ a then 0 else 1)
set_option maxHeartbeats 4000000 in
set_option maxRecDepth 100000 in
theorem cxf_isClosed (l : Launch) (D : va_G) (cA : Nat → ClassId) {S : nh_N → Option nh_C} {g : nh_N → Nat} {J : (nh_N → Nat → Int32)} {R : nh_N → Nat → Option nh_N}  (hX : xXs S R) (a : Int32)  : im_M l D cA yX5_isClosed vX5_isClosed 0 0 0 0 [.ref (g xX), .int a] S g J R (im_eq (some (.int (xf_isClosed J a))) S g J R) := by
  refine nh_of (cc := cX5_isClosed) (maxL := 2) (ret := (some .boolean)) (by decide) rfl (Nat.le_of_ble_eq_true rfl) ?_
  intro p e s m below meth c A ls hx hb hr hml hts hown hlocks hin hK hw hl
  have ht : ∀ w ∈ im_ws, w.before _ s = true := fun w h => hts w (List.mem_cons_of_mem _ h)
  have hl : lv_has ls 2 [(0, .ref (g xX)), (1, .int a)] := hl
  refine lv_iload_n hx hb dX5_isClosed_0 rfl (lv_at hl 1 rfl) ?_
  refine lv_aload_n hx hb dX5_isClosed_1 rfl (lv_at hl 0 rfl) ?_
  refine fg5 (v := .int (J xX 8)) hx hb ht hown hK hw hX.1 rfl 8 wf5_81 (by decide) (nh_vi rfl) dX5_isClosed_2 ?_
  refine lv_icmp_ge (tgt := 12) hx hb dX5_isClosed_5 (by decide) (fun c5 => ?_) (fun c5 => ?_)
  · refine lv_iconst (v := 0) hx hb dX5_isClosed_12 (by decide) ?_
    refine nh_iret hx hb hr rfl hlocks hw (Nat.zero_le _) (Nat.zero_le _) dX5_isClosed_13 ?_
    simp only [xf_isClosed, if_pos c5]
    exact im_fin rfl rfl
  · refine lv_iconst (v := 1) hx hb dX5_isClosed_8 (by decide) ?_
    refine lv_goto (tgt := 13) hx hb dX5_isClosed_9 (by decide) ?_
    refine nh_iret hx hb hr rfl hlocks hw (Nat.zero_le _) (Nat.zero_le _) dX5_isClosed_13 ?_
    simp only [xf_isClosed, if_neg c5]
    exact im_fin rfl rfl
def xf_startPage (J : (nh_N → Nat → Int32)) (k : Nat)  : Int32 × (nh_N → Nat → Int32) := (if (J (xK k) 2) = 0 then (0, (iu J (xK k) 8 0)) else (0, (iu (iu J (xK k) 8 0) (xK k) 7 0)))
set_option maxHeartbeats 4000000 in
set_option maxRecDepth 100000 in
theorem cxf_startPage (l : Launch) (D : va_G) (cA : Nat → ClassId) {S : nh_N → Option nh_C} {g : nh_N → Nat} {J : (nh_N → Nat → Int32)} {R : nh_N → Nat → Option nh_N} (k : Nat) (hk : xKs S R k)   : im_M l D cA yX1_startPage vX1_startPage 0 0 0 0 [.ref (g (xK k))] S g J R (im_eq none S g (xf_startPage J k).2 R) := by
  refine nh_of (cc := cX1_startPage) (maxL := 1) (ret := none) (by decide) rfl (Nat.le_of_ble_eq_true rfl) ?_
  intro p e s m below meth c A ls hx hb hr hml hts hown hlocks hin hK hw hl
  have ht : ∀ w ∈ im_ws, w.before _ s = true := fun w h => hts w (List.mem_cons_of_mem _ h)
  have hl : lv_has ls 1 [(0, .ref (g (xK k)))] := hl
  refine lv_aload_n hx hb dX1_startPage_0 rfl (lv_at hl 0 rfl) ?_
  refine lv_iconst (v := 0) hx hb dX1_startPage_1 (by decide) ?_
  refine fp1 hx hb ht hown hK hw hk.1 rfl 8 wf1_36 (by decide) rfl rfl rfl rfl dX1_startPage_2 (fun H locs J1 eJ1 hw => ?_)
  refine lv_aload_n hx hb dX1_startPage_5 rfl (lv_at hl 0 rfl) ?_
  refine fg1 (v := .int (J (xK k) 2)) hx hb ht hown hK hw hk.1 rfl 2 wf1_32 (by decide) (by simp [nh_v, im_sk, iu_e, xX, xKA, xIA, xPA, xLN, xLR, xK, xSO, xHM, xFT, xLT, xN, xP, xPP, xQ, eJ1]) dX1_startPage_6 ?_
  refine lv_if_eq (tgt := 17) hx hb dX1_startPage_9 (by decide) (fun c9 => ?_) (fun c9 => ?_)
  · refine nh_vret hx hb hr hlocks hw (Nat.zero_le _) (Nat.zero_le _) dX1_startPage_17 ?_
    subst eJ1
    simp only [xf_startPage, if_pos c9]
    exact im_fin rfl rfl
  · refine lv_aload_n hx hb dX1_startPage_12 rfl (lv_at hl 0 rfl) ?_
    refine lv_iconst (v := 0) hx hb dX1_startPage_13 (by decide) ?_
    refine fp1 hx hb ht hown hK hw hk.1 rfl 7 wf1_39 (by decide) rfl rfl rfl rfl dX1_startPage_14 (fun H locs J2 eJ2 hw => ?_)
    refine nh_vret hx hb hr hlocks hw (Nat.zero_le _) (Nat.zero_le _) dX1_startPage_17 ?_
    subst eJ2
    subst eJ1
    simp only [xf_startPage, if_neg c9]
    exact im_fin rfl rfl
def xf_mayCut (J : (nh_N → Nat → Int32)) (k : Nat) (a : Int32) (b : Int32) : Int32 := (if (J (xK k) 1) ≤ 0 then 0 else (if b < (J (xK k) 1) then 0 else (if (a - b) < (J (xK k) 1) then 0 else 1)))
set_option maxHeartbeats 4000000 in
set_option maxRecDepth 100000 in
theorem cxf_mayCut (l : Launch) (D : va_G) (cA : Nat → ClassId) {S : nh_N → Option nh_C} {g : nh_N → Nat} {J : (nh_N → Nat → Int32)} {R : nh_N → Nat → Option nh_N} (k : Nat) (hk : xKs S R k) (a : Int32) (b : Int32)  : im_M l D cA yX1_mayCut vX1_mayCut 0 0 0 0 [.ref (g (xK k)), .int a, .int b] S g J R (im_eq (some (.int (xf_mayCut J k a b))) S g J R) := by
  refine nh_of (cc := cX1_mayCut) (maxL := 3) (ret := (some .boolean)) (by decide) rfl (Nat.le_of_ble_eq_true rfl) ?_
  intro p e s m below meth c A ls hx hb hr hml hts hown hlocks hin hK hw hl
  have ht : ∀ w ∈ im_ws, w.before _ s = true := fun w h => hts w (List.mem_cons_of_mem _ h)
  have hl : lv_has ls 3 [(0, .ref (g (xK k))), (1, .int a), (2, .int b)] := hl
  refine lv_aload_n hx hb dX1_mayCut_0 rfl (lv_at hl 0 rfl) ?_
  refine fg1 (v := .int (J (xK k) 1)) hx hb ht hown hK hw hk.1 rfl 1 wf1_29 (by decide) (nh_vi rfl) dX1_mayCut_1 ?_
  refine lv_if_le (tgt := 29) hx hb dX1_mayCut_4 (by decide) (fun c4 => ?_) (fun c4 => ?_)
  · refine lv_iconst (v := 0) hx hb dX1_mayCut_29 (by decide) ?_
    refine nh_iret hx hb hr rfl hlocks hw (Nat.zero_le _) (Nat.zero_le _) dX1_mayCut_30 ?_
    simp only [xf_mayCut, if_pos c4]
    exact im_fin rfl rfl
  · refine lv_iload_n hx hb dX1_mayCut_7 rfl (lv_at hl 2 rfl) ?_
    refine lv_aload_n hx hb dX1_mayCut_8 rfl (lv_at hl 0 rfl) ?_
    refine fg1 (v := .int (J (xK k) 1)) hx hb ht hown hK hw hk.1 rfl 1 wf1_29 (by decide) (nh_vi rfl) dX1_mayCut_9 ?_
    refine lv_icmp_lt (tgt := 29) hx hb dX1_mayCut_12 (by decide) (fun c12 => ?_) (fun c12 => ?_)
    · refine lv_iconst (v := 0) hx hb dX1_mayCut_29 (by decide) ?_
      refine nh_iret hx hb hr rfl hlocks hw (Nat.zero_le _) (Nat.zero_le _) dX1_mayCut_30 ?_
      simp only [xf_mayCut, if_neg c4, if_pos c12]
      exact im_fin rfl rfl
    · refine lv_iload_n hx hb dX1_mayCut_15 rfl (lv_at hl 1 rfl) ?_
      refine lv_iload_n hx hb dX1_mayCut_16 rfl (lv_at hl 2 rfl) ?_
      refine lv_isub hx hb dX1_mayCut_17 ?_
      refine lv_aload_n hx hb dX1_mayCut_18 rfl (lv_at hl 0 rfl) ?_
      refine fg1 (v := .int (J (xK k) 1)) hx hb ht hown hK hw hk.1 rfl 1 wf1_29 (by decide) (nh_vi rfl) dX1_mayCut_19 ?_
      refine lv_icmp_lt (tgt := 29) hx hb dX1_mayCut_22 (by decide) (fun c22 => ?_) (fun c22 => ?_)
      · refine lv_iconst (v := 0) hx hb dX1_mayCut_29 (by decide) ?_
        refine nh_iret hx hb hr rfl hlocks hw (Nat.zero_le _) (Nat.zero_le _) dX1_mayCut_30 ?_
        simp only [xf_mayCut, if_neg c4, if_neg c12, if_pos c22]
        exact im_fin rfl rfl
      · refine lv_iconst (v := 1) hx hb dX1_mayCut_25 (by decide) ?_
        refine lv_goto (tgt := 30) hx hb dX1_mayCut_26 (by decide) ?_
        refine nh_iret hx hb hr rfl hlocks hw (Nat.zero_le _) (Nat.zero_le _) dX1_mayCut_30 ?_
        simp only [xf_mayCut, if_neg c4, if_neg c12, if_neg c22]
        exact im_fin rfl rfl
theorem xb_mayCut (J : nh_N → Nat → Int32) (k : Nat) (a b : Int32) : xf_mayCut J k a b = 0 ∨ xf_mayCut J k a b = 1 := by
  unfold xf_mayCut
  split <;> (try split) <;> (try split) <;> simp
def xf_nextNumber (J : (nh_N → Nat → Int32)) (k : Nat)  : Int32 × (nh_N → Nat → Int32) := ((J (xK k) 7) + 1, (iu J (xK k) 7 ((J (xK k) 7) + 1)))
set_option maxHeartbeats 4000000 in
set_option maxRecDepth 100000 in
theorem cxf_nextNumber (l : Launch) (D : va_G) (cA : Nat → ClassId) {S : nh_N → Option nh_C} {g : nh_N → Nat} {J : (nh_N → Nat → Int32)} {R : nh_N → Nat → Option nh_N} (k : Nat) (hk : xKs S R k)   : im_M l D cA yX1_nextNumber vX1_nextNumber 0 0 0 0 [.ref (g (xK k))] S g J R (im_eq (some (.int (xf_nextNumber J k).1)) S g (xf_nextNumber J k).2 R) := by
  refine nh_of (cc := cX1_nextNumber) (maxL := 1) (ret := (some .int)) (by decide) rfl (Nat.le_of_ble_eq_true rfl) ?_
  intro p e s m below meth c A ls hx hb hr hml hts hown hlocks hin hK hw hl
  have ht : ∀ w ∈ im_ws, w.before _ s = true := fun w h => hts w (List.mem_cons_of_mem _ h)
  have hl : lv_has ls 1 [(0, .ref (g (xK k)))] := hl
  refine lv_aload_n hx hb dX1_nextNumber_0 rfl (lv_at hl 0 rfl) ?_
  refine lv_dup hx hb dX1_nextNumber_1 rfl ?_
  refine fg1 (v := .int (J (xK k) 7)) hx hb ht hown hK hw hk.1 rfl 7 wf1_39 (by decide) (nh_vi rfl) dX1_nextNumber_2 ?_
  refine lv_iconst (v := 1) hx hb dX1_nextNumber_5 (by decide) ?_
  refine lv_iadd hx hb dX1_nextNumber_6 ?_
  refine fp1 hx hb ht hown hK hw hk.1 rfl 7 wf1_39 (by decide) rfl rfl rfl rfl dX1_nextNumber_7 (fun H locs J1 eJ1 hw => ?_)
  refine lv_aload_n hx hb dX1_nextNumber_10 rfl (lv_at hl 0 rfl) ?_
  refine fg1 (v := .int ((J (xK k) 7) + 1)) hx hb ht hown hK hw hk.1 rfl 7 wf1_39 (by decide) (by simp [nh_v, im_sk, iu_e, xX, xKA, xIA, xPA, xLN, xLR, xK, xSO, xHM, xFT, xLT, xN, xP, xPP, xQ, eJ1]) dX1_nextNumber_11 ?_
  refine nh_iret hx hb hr rfl hlocks hw (Nat.zero_le _) (Nat.zero_le _) dX1_nextNumber_14 ?_
  subst eJ1
  exact im_fin rfl rfl
def xf_addMark (J : (nh_N → Nat → Int32)) (k : Nat) (a : Int32) (b : Int32) : Int32 × (nh_N → Nat → Int32) := (if (J (xHM k) a.toNatClampNeg) = 0 then (0, (iu (iu (iu J (xHM k) a.toNatClampNeg 1) (xFT k) a.toNatClampNeg b) (xLT k) a.toNatClampNeg b)) else (0, (iu J (xLT k) a.toNatClampNeg b)))
set_option maxHeartbeats 4000000 in
set_option maxRecDepth 100000 in
theorem cxf_addMark (l : Launch) (D : va_G) (cA : Nat → ClassId) {S : nh_N → Option nh_C} {g : nh_N → Nat} {J : (nh_N → Nat → Int32)} {R : nh_N → Nat → Option nh_N} (k : Nat) (hk : xKs S R k) (a : Int32) (b : Int32) (hpa : vp_in a 40) : im_M l D cA yX1_addMark vX1_addMark 0 0 0 0 [.ref (g (xK k)), .int a, .int b] S g J R (im_eq none S g (xf_addMark J k a b).2 R) := by
  refine nh_of (cc := cX1_addMark) (maxL := 3) (ret := none) (by decide) rfl (Nat.le_of_ble_eq_true rfl) ?_
  intro p e s m below meth c A ls hx hb hr hml hts hown hlocks hin hK hw hl
  have ht : ∀ w ∈ im_ws, w.before _ s = true := fun w h => hts w (List.mem_cons_of_mem _ h)
  have hl : lv_has ls 3 [(0, .ref (g (xK k))), (1, .int a), (2, .int b)] := hl
  refine lv_aload_n hx hb dX1_addMark_0 rfl (lv_at hl 0 rfl) ?_
  refine fg1 hx hb ht hown hK hw hk.1 rfl 4 wf1_15 (by decide) (nh_vr rfl hk.2.2.2.1) dX1_addMark_1 ?_
  refine lv_iload_n hx hb dX1_addMark_4 rfl (lv_at hl 1 rfl) ?_
  refine az_ld hx hb hK hw hk.2.2.2.2.1 rfl hpa dX1_addMark_5 ?_
  refine lv_if_ne (tgt := 23) hx hb dX1_addMark_6 (by decide) (fun c6 => ?_) (fun c6 => ?_)
  · refine lv_aload_n hx hb dX1_addMark_23 rfl (lv_at hl 0 rfl) ?_
    refine fg1 hx hb ht hown hK hw hk.1 rfl 6 wf1_22 (by decide) (nh_vr rfl hk.2.2.2.2.2.2.2.1) dX1_addMark_24 ?_
    refine lv_iload_n hx hb dX1_addMark_27 rfl (lv_at hl 1 rfl) ?_
    refine lv_iload_n hx hb dX1_addMark_28 rfl (lv_at hl 2 rfl) ?_
    refine ai_st hx hb hK hw hk.2.2.2.2.2.2.2.2 rfl hpa dX1_addMark_29 (fun H locs J1 eJ1 hw => ?_)
    refine nh_vret hx hb hr hlocks hw (Nat.zero_le _) (Nat.zero_le _) dX1_addMark_30 ?_
    subst eJ1
    simp only [xf_addMark, if_neg c6]
    exact im_fin rfl rfl
  · refine lv_aload_n hx hb dX1_addMark_9 rfl (lv_at hl 0 rfl) ?_
    refine fg1 hx hb ht hown hK hw hk.1 rfl 4 wf1_15 (by decide) (nh_vr rfl hk.2.2.2.1) dX1_addMark_10 ?_
    refine lv_iload_n hx hb dX1_addMark_13 rfl (lv_at hl 1 rfl) ?_
    refine lv_iconst (v := 1) hx hb dX1_addMark_14 (by decide) ?_
    refine az_st hx hb hK hw hk.2.2.2.2.1 rfl hpa rfl dX1_addMark_15 (fun H locs J2 eJ2 hw => ?_)
    refine lv_aload_n hx hb dX1_addMark_16 rfl (lv_at hl 0 rfl) ?_
    refine fg1 hx hb ht hown hK hw hk.1 rfl 5 wf1_19 (by decide) (nh_vr rfl hk.2.2.2.2.2.1) dX1_addMark_17 ?_
    refine lv_iload_n hx hb dX1_addMark_20 rfl (lv_at hl 1 rfl) ?_
    refine lv_iload_n hx hb dX1_addMark_21 rfl (lv_at hl 2 rfl) ?_
    refine ai_st hx hb hK hw hk.2.2.2.2.2.2.1 rfl hpa dX1_addMark_22 (fun H locs J3 eJ3 hw => ?_)
    refine lv_aload_n hx hb dX1_addMark_23 rfl (lv_at hl 0 rfl) ?_
    refine fg1 hx hb ht hown hK hw hk.1 rfl 6 wf1_22 (by decide) (nh_vr rfl hk.2.2.2.2.2.2.2.1) dX1_addMark_24 ?_
    refine lv_iload_n hx hb dX1_addMark_27 rfl (lv_at hl 1 rfl) ?_
    refine lv_iload_n hx hb dX1_addMark_28 rfl (lv_at hl 2 rfl) ?_
    refine ai_st hx hb hK hw hk.2.2.2.2.2.2.2.2 rfl hpa dX1_addMark_29 (fun H locs J4 eJ4 hw => ?_)
    refine nh_vret hx hb hr hlocks hw (Nat.zero_le _) (Nat.zero_le _) dX1_addMark_30 ?_
    subst eJ4
    subst eJ3
    subst eJ2
    simp only [xf_addMark, if_pos c6]
    exact im_fin rfl rfl
def xf_isTakenBack (J : (nh_N → Nat → Int32)) (i k : Nat)  : Int32 := (if (J (xN i) 3) = 0 then (if (J (xN i) 7) = 0 then 1 else 0) else 0)
set_option maxHeartbeats 4000000 in
set_option maxRecDepth 100000 in
theorem cxf_isTakenBack (l : Launch) (D : va_G) (cA : Nat → ClassId) {S : nh_N → Option nh_C} {g : nh_N → Nat} {J : (nh_N → Nat → Int32)} {R : nh_N → Nat → Option nh_N} (i k : Nat) (hn : xNs S R i k)   : im_M l D cA yX0_isTakenBack vX0_isTakenBack 0 0 0 0 [.ref (g (xN i))] S g J R (im_eq (some (.int (xf_isTakenBack J i k))) S g J R) := by
  refine nh_of (cc := cX0_isTakenBack) (maxL := 1) (ret := (some .boolean)) (by decide) rfl (Nat.le_of_ble_eq_true rfl) ?_
  intro p e s m below meth c A ls hx hb hr hml hts hown hlocks hin hK hw hl
  have ht : ∀ w ∈ im_ws, w.before _ s = true := fun w h => hts w (List.mem_cons_of_mem _ h)
  have hl : lv_has ls 1 [(0, .ref (g (xN i)))] := hl
  refine lv_aload_n hx hb dX0_isTakenBack_0 rfl (lv_at hl 0 rfl) ?_
  refine fg0 (v := .int (J (xN i) 3)) hx hb ht hown hK hw hn.1 rfl 3 wf0_31 (by decide) (nh_vi rfl) dX0_isTakenBack_1 ?_
  refine lv_if_ne (tgt := 18) hx hb dX0_isTakenBack_4 (by decide) (fun c4 => ?_) (fun c4 => ?_)
  · refine lv_iconst (v := 0) hx hb dX0_isTakenBack_18 (by decide) ?_
    refine nh_iret hx hb hr rfl hlocks hw (Nat.zero_le _) (Nat.zero_le _) dX0_isTakenBack_19 ?_
    simp only [xf_isTakenBack, if_neg c4]
    exact im_fin rfl rfl
  · refine lv_aload_n hx hb dX0_isTakenBack_7 rfl (lv_at hl 0 rfl) ?_
    refine fg0 (v := .int (J (xN i) 7)) hx hb ht hown hK hw hn.1 rfl 7 wf0_34 (by decide) (nh_vi rfl) dX0_isTakenBack_8 ?_
    refine lv_if_ne (tgt := 18) hx hb dX0_isTakenBack_11 (by decide) (fun c11 => ?_) (fun c11 => ?_)
    · refine lv_iconst (v := 0) hx hb dX0_isTakenBack_18 (by decide) ?_
      refine nh_iret hx hb hr rfl hlocks hw (Nat.zero_le _) (Nat.zero_le _) dX0_isTakenBack_19 ?_
      simp only [xf_isTakenBack, if_pos c4, if_neg c11]
      exact im_fin rfl rfl
    · refine lv_iconst (v := 1) hx hb dX0_isTakenBack_14 (by decide) ?_
      refine lv_goto (tgt := 19) hx hb dX0_isTakenBack_15 (by decide) ?_
      refine nh_iret hx hb hr rfl hlocks hw (Nat.zero_le _) (Nat.zero_le _) dX0_isTakenBack_19 ?_
      simp only [xf_isTakenBack, if_pos c4, if_pos c11]
      exact im_fin rfl rfl
def xf_addPart (J : (nh_N → Nat → Int32)) (i k : Nat) (a : Int32) (b : Int32) : Int32 × (nh_N → Nat → Int32) := (if (J (xN i) 7) = 0 then (0, (iu (iu (iu (iu (xf_nextNumber (iu J (xN i) 5 a) k).2 (xN i) 4 ((xf_nextNumber (iu J (xN i) 5 a) k).1)) (xN i) 6 a) (xN i) 7 (((xf_nextNumber (iu J (xN i) 5 a) k).2 (xN i) 7) + 1)) (xN i) 3 (((xf_nextNumber (iu J (xN i) 5 a) k).2 (xN i) 3) - b))) else (0, (iu (iu (iu J (xN i) 6 a) (xN i) 7 ((J (xN i) 7) + 1)) (xN i) 3 ((J (xN i) 3) - b))))
set_option maxHeartbeats 4000000 in
set_option maxRecDepth 100000 in
theorem cxf_addPart (l : Launch) (D : va_G) (cA : Nat → ClassId) {S : nh_N → Option nh_C} {g : nh_N → Nat} {J : (nh_N → Nat → Int32)} {R : nh_N → Nat → Option nh_N} (i k : Nat) (hn : xNs S R i k) (hk : xKs S R k) (a : Int32) (b : Int32)  : im_M l D cA yX0_addPart vX0_addPart 1 20 0 0 [.ref (g (xN i)), .int a, .int b] S g J R (im_eq none S g (xf_addPart J i k a b).2 R) := by
  refine nh_of (cc := cX0_addPart) (maxL := 3) (ret := none) (by decide) rfl (Nat.le_of_ble_eq_true rfl) ?_
  intro p e s m below meth c A ls hx hb hr hml hts hown hlocks hin hK hw hl
  have ht : ∀ w ∈ im_ws, w.before _ s = true := fun w h => hts w (List.mem_cons_of_mem _ h)
  have hl : lv_has ls 3 [(0, .ref (g (xN i))), (1, .int a), (2, .int b)] := hl
  refine lv_aload_n hx hb dX0_addPart_0 rfl (lv_at hl 0 rfl) ?_
  refine fg0 (v := .int (J (xN i) 7)) hx hb ht hown hK hw hn.1 rfl 7 wf0_34 (by decide) (nh_vi rfl) dX0_addPart_1 ?_
  refine lv_if_ne (tgt := 23) hx hb dX0_addPart_4 (by decide) (fun c4 => ?_) (fun c4 => ?_)
  · refine lv_aload_n hx hb dX0_addPart_23 rfl (lv_at hl 0 rfl) ?_
    refine lv_iload_n hx hb dX0_addPart_24 rfl (lv_at hl 1 rfl) ?_
    refine fp0 hx hb ht hown hK hw hn.1 rfl 6 wf0_18 (by decide) rfl rfl rfl rfl dX0_addPart_25 (fun H locs J1 eJ1 hw => ?_)
    refine lv_aload_n hx hb dX0_addPart_28 rfl (lv_at hl 0 rfl) ?_
    refine lv_dup hx hb dX0_addPart_29 rfl ?_
    refine fg0 (v := .int (J (xN i) 7)) hx hb ht hown hK hw hn.1 rfl 7 wf0_34 (by decide) (by simp [nh_v, im_sk, iu_e, xX, xKA, xIA, xPA, xLN, xLR, xK, xSO, xHM, xFT, xLT, xN, xP, xPP, xQ, eJ1]) dX0_addPart_30 ?_
    refine lv_iconst (v := 1) hx hb dX0_addPart_33 (by decide) ?_
    refine lv_iadd hx hb dX0_addPart_34 ?_
    refine fp0 hx hb ht hown hK hw hn.1 rfl 7 wf0_34 (by decide) rfl rfl rfl rfl dX0_addPart_35 (fun H locs J2 eJ2 hw => ?_)
    refine lv_aload_n hx hb dX0_addPart_38 rfl (lv_at hl 0 rfl) ?_
    refine lv_dup hx hb dX0_addPart_39 rfl ?_
    refine fg0 (v := .int (J (xN i) 3)) hx hb ht hown hK hw hn.1 rfl 3 wf0_31 (by decide) (by simp [nh_v, im_sk, iu_e, xX, xKA, xIA, xPA, xLN, xLR, xK, xSO, xHM, xFT, xLT, xN, xP, xPP, xQ, eJ2, eJ1]) dX0_addPart_40 ?_
    refine lv_iload_n hx hb dX0_addPart_43 rfl (lv_at hl 2 rfl) ?_
    refine lv_isub hx hb dX0_addPart_44 ?_
    refine fp0 hx hb ht hown hK hw hn.1 rfl 3 wf0_31 (by decide) rfl rfl rfl rfl dX0_addPart_45 (fun H locs J3 eJ3 hw => ?_)
    refine nh_vret hx hb hr hlocks hw (Nat.zero_le _) (Nat.zero_le _) dX0_addPart_48 ?_
    subst eJ3
    subst eJ2
    subst eJ1
    simp only [xf_addPart, if_neg c4]
    exact im_fin rfl rfl
  · refine lv_aload_n hx hb dX0_addPart_7 rfl (lv_at hl 0 rfl) ?_
    refine lv_iload_n hx hb dX0_addPart_8 rfl (lv_at hl 1 rfl) ?_
    refine fp0 hx hb ht hown hK hw hn.1 rfl 5 wf0_15 (by decide) rfl rfl rfl rfl dX0_addPart_9 (fun H locs J4 eJ4 hw => ?_)
    refine lv_aload_n hx hb dX0_addPart_12 rfl (lv_at hl 0 rfl) ?_
    refine lv_aload_n hx hb dX0_addPart_13 rfl (lv_at hl 0 rfl) ?_
    refine fg0 hx hb ht hown hK hw hn.1 rfl 1 wf0_24 (by decide) (nh_vr rfl hn.2) dX0_addPart_14 ?_
    refine kcX1_nextNumber (As := []) (rest := [.ref (g (xN i))]) wm0_37 (cxf_nextNumber l D cA k hk) hx hb hml ht hown hK hw hk.1 rfl rfl hl.1 rfl (by simp [Value.category]) ⟨by decide, by decide⟩ ⟨by simp, by simp⟩ dX0_addPart_17 (fun v S1 g1 J5 R1 H locs hp hw => ?_)
    obtain ⟨rfl, h1, h2, eJ5, h4⟩ := hp
    rw [h1, h2, h4] at hw
    clear h1 h2 h4
    show W _ _ _ _ _ _ _ _ _ _ _ _ _ _ _ (F0 m 20 ls [.int ((xf_nextNumber J4 k).1), .ref (g (xN i))])
    refine fp0 hx hb ht hown hK hw hn.1 rfl 4 wf0_9 (by decide) rfl rfl rfl rfl dX0_addPart_20 (fun H locs J6 eJ6 hw => ?_)
    refine lv_aload_n hx hb dX0_addPart_23 rfl (lv_at hl 0 rfl) ?_
    refine lv_iload_n hx hb dX0_addPart_24 rfl (lv_at hl 1 rfl) ?_
    refine fp0 hx hb ht hown hK hw hn.1 rfl 6 wf0_18 (by decide) rfl rfl rfl rfl dX0_addPart_25 (fun H locs J7 eJ7 hw => ?_)
    refine lv_aload_n hx hb dX0_addPart_28 rfl (lv_at hl 0 rfl) ?_
    refine lv_dup hx hb dX0_addPart_29 rfl ?_
    refine fg0 (v := .int (J5 (xN i) 7)) hx hb ht hown hK hw hn.1 rfl 7 wf0_34 (by decide) (by simp [nh_v, im_sk, iu_e, xX, xKA, xIA, xPA, xLN, xLR, xK, xSO, xHM, xFT, xLT, xN, xP, xPP, xQ, eJ7, eJ6]) dX0_addPart_30 ?_
    refine lv_iconst (v := 1) hx hb dX0_addPart_33 (by decide) ?_
    refine lv_iadd hx hb dX0_addPart_34 ?_
    refine fp0 hx hb ht hown hK hw hn.1 rfl 7 wf0_34 (by decide) rfl rfl rfl rfl dX0_addPart_35 (fun H locs J8 eJ8 hw => ?_)
    refine lv_aload_n hx hb dX0_addPart_38 rfl (lv_at hl 0 rfl) ?_
    refine lv_dup hx hb dX0_addPart_39 rfl ?_
    refine fg0 (v := .int (J5 (xN i) 3)) hx hb ht hown hK hw hn.1 rfl 3 wf0_31 (by decide) (by simp [nh_v, im_sk, iu_e, xX, xKA, xIA, xPA, xLN, xLR, xK, xSO, xHM, xFT, xLT, xN, xP, xPP, xQ, eJ8, eJ7, eJ6]) dX0_addPart_40 ?_
    refine lv_iload_n hx hb dX0_addPart_43 rfl (lv_at hl 2 rfl) ?_
    refine lv_isub hx hb dX0_addPart_44 ?_
    refine fp0 hx hb ht hown hK hw hn.1 rfl 3 wf0_31 (by decide) rfl rfl rfl rfl dX0_addPart_45 (fun H locs J9 eJ9 hw => ?_)
    refine nh_vret hx hb hr hlocks hw (Nat.zero_le _) (Nat.zero_le _) dX0_addPart_48 ?_
    subst eJ9
    subst eJ8
    subst eJ7
    subst eJ6
    subst eJ5
    subst eJ4
    simp only [xf_addPart, if_pos c4]
    exact im_fin rfl rfl
def xf_append (J : (nh_N → Nat → Int32))  (a : Int32) : Int32 × (nh_N → Nat → Int32) := (if (nI 200) ≤ (J xLN 1) then (0, J) else (0, (iu (iu J xLR (J xLN 1).toNatClampNeg a) xLN 1 ((J xLN 1) + 1))))
set_option maxHeartbeats 4000000 in
set_option maxRecDepth 100000 in
theorem cxf_append (l : Launch) (D : va_G) (cA : Nat → ClassId) {S : nh_N → Option nh_C} {g : nh_N → Nat} {J : (nh_N → Nat → Int32)} {R : nh_N → Nat → Option nh_N}  (hln : xLs S R) (a : Int32) (n : Nat) (hn : J xLN 1 = nI n) (hn2 : n ≤ 200) : im_M l D cA yX2_append vX2_append 0 0 0 0 [.ref (g xLN), .int a] S g J R (im_eq none S g (xf_append J a).2 R) := by
  refine nh_of (cc := cX2_append) (maxL := 2) (ret := none) (by decide) rfl (Nat.le_of_ble_eq_true rfl) ?_
  intro p e s m below meth c A ls hx hb hr hml hts hown hlocks hin hK hw hl
  have ht : ∀ w ∈ im_ws, w.before _ s = true := fun w h => hts w (List.mem_cons_of_mem _ h)
  have hl : lv_has ls 2 [(0, .ref (g xLN)), (1, .int a)] := hl
  refine lv_aload_n hx hb dX2_append_0 rfl (lv_at hl 0 rfl) ?_
  refine fg2 (v := .int (J xLN 1)) hx hb ht hown hK hw hln.1 rfl 1 wf2_15 (by decide) (nh_vi rfl) dX2_append_1 ?_
  refine lv_aload_n hx hb dX2_append_4 rfl (lv_at hl 0 rfl) ?_
  refine fg2 hx hb ht hown hK hw hln.1 rfl 0 wf2_9 (by decide) (nh_vr rfl hln.2.1) dX2_append_5 ?_
  refine ai_len hx hb hK hw hln.2.2 rfl dX2_append_8 ?_
  refine lv_icmp_ge (tgt := 32) hx hb dX2_append_9 (by decide) (fun c9 => ?_) (fun c9 => ?_)
  · refine nh_vret hx hb hr hlocks hw (Nat.zero_le _) (Nat.zero_le _) dX2_append_32 ?_
    simp only [xf_append, if_pos c9]
    exact im_fin rfl rfl
  · refine lv_aload_n hx hb dX2_append_12 rfl (lv_at hl 0 rfl) ?_
    refine fg2 hx hb ht hown hK hw hln.1 rfl 0 wf2_9 (by decide) (nh_vr rfl hln.2.1) dX2_append_13 ?_
    refine lv_aload_n hx hb dX2_append_16 rfl (lv_at hl 0 rfl) ?_
    refine fg2 (v := .int (J xLN 1)) hx hb ht hown hK hw hln.1 rfl 1 wf2_15 (by decide) (nh_vi rfl) dX2_append_17 ?_
    refine lv_iload_n hx hb dX2_append_20 rfl (lv_at hl 1 rfl) ?_
    refine ai_st hx hb hK hw hln.2.2 rfl (ix_of n hn (by rcases Nat.lt_or_ge n 200 with h | h; exact h; exact absurd (by rw [hn]; exact nI_le h (by omega)) c9) (by decide)) dX2_append_21 (fun H locs J1 eJ1 hw => ?_)
    refine lv_aload_n hx hb dX2_append_22 rfl (lv_at hl 0 rfl) ?_
    refine lv_dup hx hb dX2_append_23 rfl ?_
    refine fg2 (v := .int (J xLN 1)) hx hb ht hown hK hw hln.1 rfl 1 wf2_15 (by decide) (by simp [nh_v, im_sk, iu_e, xX, xKA, xIA, xPA, xLN, xLR, xK, xSO, xHM, xFT, xLT, xN, xP, xPP, xQ, eJ1]) dX2_append_24 ?_
    refine lv_iconst (v := 1) hx hb dX2_append_27 (by decide) ?_
    refine lv_iadd hx hb dX2_append_28 ?_
    refine fp2 hx hb ht hown hK hw hln.1 rfl 1 wf2_15 (by decide) rfl rfl rfl rfl dX2_append_29 (fun H locs J2 eJ2 hw => ?_)
    refine nh_vret hx hb hr hlocks hw (Nat.zero_le _) (Nat.zero_le _) dX2_append_32 ?_
    subst eJ2
    subst eJ1
    simp only [xf_append, if_neg c9]
    exact im_fin rfl rfl
theorem xi_in {J : nh_N → Nat → Int32} {a x : Int32} {n N : Nat} (h : ¬ xf_isWithin J a 0 (x - 1) = 0) (hx : x = nI n) (hn : n ≤ N) (hN : N < 2 ^ 30 := by decide) : vp_in a N := by
  unfold xf_isWithin at h
  by_cases h1 : a < 0
  · simp [Int32.not_le.mpr h1] at h
  · by_cases h2 : x - 1 < a
    · simp [Int32.not_le.mpr h2] at h
    · obtain ⟨j, hj, rfl⟩ := nI_of h1
      refine vp_in_nI ?_ (by omega)
      subst hx
      rw [Int32.lt_iff_toInt_lt] at h2
      have e1 : (nI j).toInt = (j : Int) := nI_toInt hj
      have e2 : (nI n - 1).toInt = (n : Int) - 1 := pk_sub_toInt (a := n) (b := 1) (by omega) (by omega)
      rw [e1, e2] at h2
      omega
def xf_indexAt (J : (nh_N → Nat → Int32))  (a : Int32) : Int32 := (if (xf_isWithin J a 0 ((J xLN 1) - 1)) = 0 then (-1) else (J xLR a.toNatClampNeg))
set_option maxHeartbeats 4000000 in
set_option maxRecDepth 100000 in
theorem cxf_indexAt (l : Launch) (D : va_G) (cA : Nat → ClassId) {S : nh_N → Option nh_C} {g : nh_N → Nat} {J : (nh_N → Nat → Int32)} {R : nh_N → Nat → Option nh_N}  (hln : xLs S R) (a : Int32) (n : Nat) (hn : J xLN 1 = nI n) (hn2 : n ≤ 200) : im_M l D cA yX2_indexAt vX2_indexAt 1 22 0 0 [.ref (g xLN), .int a] S g J R (im_eq (some (.int (xf_indexAt J a))) S g J R) := by
  refine nh_of (cc := cX2_indexAt) (maxL := 2) (ret := (some .int)) (by decide) rfl (Nat.le_of_ble_eq_true rfl) ?_
  intro p e s m below meth c A ls hx hb hr hml hts hown hlocks hin hK hw hl
  have ht : ∀ w ∈ im_ws, w.before _ s = true := fun w h => hts w (List.mem_cons_of_mem _ h)
  have hl : lv_has ls 2 [(0, .ref (g xLN)), (1, .int a)] := hl
  refine lv_iload_n hx hb dX2_indexAt_0 rfl (lv_at hl 1 rfl) ?_
  refine lv_iconst (v := 0) hx hb dX2_indexAt_1 (by decide) ?_
  refine lv_aload_n hx hb dX2_indexAt_2 rfl (lv_at hl 0 rfl) ?_
  refine fg2 (v := .int (J xLN 1)) hx hb ht hown hK hw hln.1 rfl 1 wf2_15 (by decide) (nh_vi rfl) dX2_indexAt_3 ?_
  refine lv_iconst (v := 1) hx hb dX2_indexAt_6 (by decide) ?_
  refine lv_isub hx hb dX2_indexAt_7 ?_
  refine kn2_isWithin (As := [.int a, .int 0, .int ((J xLN 1) - 1)]) (rest := []) (cxf_isWithin l D cA a 0 ((J xLN 1) - 1)) hx hb hml ht hown hK hw rfl hl.1 rfl (by simp [Value.category]) ⟨by decide, by decide⟩ ⟨by simp, by simp⟩ dX2_indexAt_8 (fun v S1 g1 I1 R1 H locs hp hw => ?_)
  obtain ⟨rfl, h1, h2, h3, h4⟩ := hp
  rw [h1, h2, h3, h4] at hw
  clear h1 h2 h3 h4
  show W _ _ _ _ _ _ _ _ _ _ _ _ _ _ _ (F0 m 11 ls [.int (xf_isWithin J a 0 ((J xLN 1) - 1))])
  refine lv_if_eq (tgt := 23) hx hb dX2_indexAt_11 (by decide) (fun c11 => ?_) (fun c11 => ?_)
  · refine lv_iconst (v := (-1)) hx hb dX2_indexAt_23 (by decide) ?_
    refine nh_iret hx hb hr rfl hlocks hw (Nat.zero_le _) (Nat.zero_le _) dX2_indexAt_24 ?_
    simp only [xf_indexAt, if_pos c11]
    exact im_fin rfl rfl
  · refine lv_aload_n hx hb dX2_indexAt_14 rfl (lv_at hl 0 rfl) ?_
    refine fg2 hx hb ht hown hK hw hln.1 rfl 0 wf2_9 (by decide) (nh_vr rfl hln.2.1) dX2_indexAt_15 ?_
    refine lv_iload_n hx hb dX2_indexAt_18 rfl (lv_at hl 1 rfl) ?_
    refine ai_ld hx hb hK hw hln.2.2 rfl (xi_in c11 hn hn2) dX2_indexAt_19 ?_
    refine lv_goto (tgt := 24) hx hb dX2_indexAt_20 (by decide) ?_
    refine nh_iret hx hb hr rfl hlocks hw (Nat.zero_le _) (Nat.zero_le _) dX2_indexAt_24 ?_
    simp only [xf_indexAt, if_neg c11]
    exact im_fin rfl rfl
end
section
def xl_topMark (J : (nh_N → Nat → Int32)) (k : Nat) (a : Int32) : Nat → Int32
  | 0 => 0
  | r + 1 => (if (J (xHM k) (nI r).toNatClampNeg) = 0 then xl_topMark J k a r else (J (xLT k) (nI r).toNatClampNeg))
def xf_topMark (J : (nh_N → Nat → Int32)) (k : Nat) (pg : Nat) (a : Int32) : Int32 := xl_topMark J k a pg
set_option maxHeartbeats 4000000 in
set_option maxRecDepth 100000 in
theorem cxf_topMark (l : Launch) (D : va_G) (cA : Nat → ClassId) {S : nh_N → Option nh_C} {g : nh_N → Nat} {J : (nh_N → Nat → Int32)} {R : nh_N → Nat → Option nh_N} (k : Nat) (hk : xKs S R k) (a : Int32) (pg : Nat) (hpg : a = nI pg) (hp4 : pg ≤ 40) : im_M l D cA yX1_topMark vX1_topMark 0 0 0 0 [.ref (g (xK k)), .int a] S g J R (im_eq (some (.int (xf_topMark J k pg a))) S g J R) := by
  refine nh_of (cc := cX1_topMark) (maxL := 3) (ret := (some .int)) (by decide) rfl (Nat.le_of_ble_eq_true rfl) ?_
  intro p e s m below meth c A ls hx hb hr hml hts hown hlocks hin hK hw hl
  have ht : ∀ w ∈ im_ws, w.before _ s = true := fun w h => hts w (List.mem_cons_of_mem _ h)
  have hl : lv_has ls 3 [(0, .ref (g (xK k))), (1, .int a)] := hl
  have loop : ∀ (r : Nat) (ls : Array Slot) (H : Heap) (locs : List Loc), nh_S D im_cl im_sk cA A s.heap S g J R H locs → r ≤ pg → lv_has ls 3 [(0, .ref (g (xK k))), (1, .int a), (2, .int (nI r - 1))] → W p l e { frames := 0, cells := 0, slots := 0, locals := 0 } s m ([.ref (g (xK k)), .int a] : List Value).toArray below meth c H locs 0 0 (MQ below (nh_Q D im_cl im_sk cA A (im_eq (some (.int (xl_topMark J k a r))) S g J R)) ([.ref (g (xK k)), .int a] : List Value).toArray s 0 0 A) (F0 m 4 ls []) := by
    intro r
    induction r with
    | zero =>
      intro ls H locs hw hj hl
      refine lv_iload_n hx hb dX1_topMark_4 rfl (lv_at hl 2 rfl) ?_
      refine lv_if_lt (tgt := 30) hx hb dX1_topMark_5 (by decide) (fun c5 => ?_) (fun c5 => ?_)
      · refine lv_iconst (v := 0) hx hb dX1_topMark_30 (by decide) ?_
        refine nh_iret hx hb hr rfl hlocks hw (Nat.zero_le _) (Nat.zero_le _) dX1_topMark_31 ?_
        exact im_fin rfl rfl
      · exact absurd (by decide) c5
    | succ r ih =>
      intro ls H locs hw hj hl
      rw [nI_pred] at hl
      have hj9 : vp_in (nI r) 40 := vp_in_nI (by omega) (by decide)
      refine lv_iload_n hx hb dX1_topMark_4 rfl (lv_at hl 2 rfl) ?_
      refine lv_if_lt (tgt := 30) hx hb dX1_topMark_5 (by decide) (fun c5 => ?_) (fun c5 => ?_)
      · exact absurd c5 (nI_pos (by omega))
      · refine lv_aload_n hx hb dX1_topMark_8 rfl (lv_at hl 0 rfl) ?_
        refine fg1 hx hb ht hown hK hw hk.1 rfl 4 wf1_15 (by decide) (nh_vr rfl hk.2.2.2.1) dX1_topMark_9 ?_
        refine lv_iload_n hx hb dX1_topMark_12 rfl (lv_at hl 2 rfl) ?_
        refine az_ld hx hb hK hw hk.2.2.2.2.1 rfl hj9 dX1_topMark_13 ?_
        refine lv_if_eq (tgt := 24) hx hb dX1_topMark_14 (by decide) (fun c14 => ?_) (fun c14 => ?_)
        · refine lv_iinc (v := (nI r) + (-1)) (lv' := [(2, .int ((nI r) + (-1))), (0, .ref (g (xK k))), (1, .int a)]) hx hb dX1_topMark_24 hl (k := 2) rfl rfl (by decide) rfl (fun ls hl => ?_)
          refine lv_goto (tgt := 4) hx hb dX1_topMark_27 (by decide) ?_
          have h9 : lv_has ls 3 [(0, .ref (g (xK k))), (1, .int a), (2, .int ((nI r) + (-1)))] := lv_sub hl [1, 2, 0] rfl
          rw [show nI r + (-1) = nI r - 1 from (Int32.sub_eq_add_neg _ _).symm] at h9
          simp only [xl_topMark, if_pos c14]
          exact ih ls _ _ hw (by omega) h9
        · refine lv_aload_n hx hb dX1_topMark_17 rfl (lv_at hl 0 rfl) ?_
          refine fg1 hx hb ht hown hK hw hk.1 rfl 6 wf1_22 (by decide) (nh_vr rfl hk.2.2.2.2.2.2.2.1) dX1_topMark_18 ?_
          refine lv_iload_n hx hb dX1_topMark_21 rfl (lv_at hl 2 rfl) ?_
          refine ai_ld hx hb hK hw hk.2.2.2.2.2.2.2.2 rfl hj9 dX1_topMark_22 ?_
          refine nh_iret hx hb hr rfl hlocks hw (Nat.zero_le _) (Nat.zero_le _) dX1_topMark_23 ?_
          simp only [xl_topMark, if_neg c14]
          exact im_fin rfl rfl
  refine lv_iload_n hx hb dX1_topMark_0 rfl (lv_at hl 1 rfl) ?_
  refine lv_iconst (v := 1) hx hb dX1_topMark_1 (by decide) ?_
  refine lv_isub hx hb dX1_topMark_2 ?_
  refine lv_istore_n (lv' := [(2, .int (a - 1)), (0, .ref (g (xK k))), (1, .int a)]) hx hb dX1_topMark_3 rfl hl (by decide) rfl (fun ls hl => ?_)
  exact loop pg ls _ _ hw (by omega) (by rw [← hpg]; exact lv_sub hl [1, 2, 0] rfl)
def xf_firstMark (J : (nh_N → Nat → Int32)) (k pg : Nat) (a : Int32) : Int32 := (if (J (xHM k) a.toNatClampNeg) = 0 then (xf_topMark J k pg a) else (J (xFT k) a.toNatClampNeg))
set_option maxHeartbeats 4000000 in
set_option maxRecDepth 100000 in
theorem cxf_firstMark (l : Launch) (D : va_G) (cA : Nat → ClassId) {S : nh_N → Option nh_C} {g : nh_N → Nat} {J : (nh_N → Nat → Int32)} {R : nh_N → Nat → Option nh_N} (k pg : Nat) (hk : xKs S R k) (a : Int32) (hpg : a = nI pg) (hp4 : pg < 40) : im_M l D cA yX1_firstMark vX1_firstMark 1 22 0 0 [.ref (g (xK k)), .int a] S g J R (im_eq (some (.int (xf_firstMark J k pg a))) S g J R) := by
  refine nh_of (cc := cX1_firstMark) (maxL := 2) (ret := (some .int)) (by decide) rfl (Nat.le_of_ble_eq_true rfl) ?_
  intro p e s m below meth c A ls hx hb hr hml hts hown hlocks hin hK hw hl
  have ht : ∀ w ∈ im_ws, w.before _ s = true := fun w h => hts w (List.mem_cons_of_mem _ h)
  have hl : lv_has ls 2 [(0, .ref (g (xK k))), (1, .int a)] := hl
  refine lv_aload_n hx hb dX1_firstMark_0 rfl (lv_at hl 0 rfl) ?_
  refine fg1 hx hb ht hown hK hw hk.1 rfl 4 wf1_15 (by decide) (nh_vr rfl hk.2.2.2.1) dX1_firstMark_1 ?_
  refine lv_iload_n hx hb dX1_firstMark_4 rfl (lv_at hl 1 rfl) ?_
  refine az_ld hx hb hK hw hk.2.2.2.2.1 rfl (ix_of pg hpg hp4 (by decide)) dX1_firstMark_5 ?_
  refine lv_if_eq (tgt := 18) hx hb dX1_firstMark_6 (by decide) (fun c6 => ?_) (fun c6 => ?_)
  · refine lv_aload_n hx hb dX1_firstMark_18 rfl (lv_at hl 0 rfl) ?_
    refine lv_iload_n hx hb dX1_firstMark_19 rfl (lv_at hl 1 rfl) ?_
    refine kcX1_topMark (As := [.int a]) (rest := []) wm1_42 (cxf_topMark l D cA k hk a pg hpg (by omega)) hx hb hml ht hown hK hw hk.1 rfl rfl hl.1 rfl (by simp [Value.category]) ⟨by decide, by decide⟩ ⟨by simp, by simp⟩ dX1_firstMark_20 (fun v S1 g1 I1 R1 H locs hp hw => ?_)
    obtain ⟨rfl, h1, h2, h3, h4⟩ := hp
    rw [h1, h2, h3, h4] at hw
    clear h1 h2 h3 h4
    show W _ _ _ _ _ _ _ _ _ _ _ _ _ _ _ (F0 m 23 ls [.int (xf_topMark J k pg a)])
    refine nh_iret hx hb hr rfl hlocks hw (Nat.zero_le _) (Nat.zero_le _) dX1_firstMark_23 ?_
    simp only [xf_firstMark, if_pos c6]
    exact im_fin rfl rfl
  · refine lv_aload_n hx hb dX1_firstMark_9 rfl (lv_at hl 0 rfl) ?_
    refine fg1 hx hb ht hown hK hw hk.1 rfl 5 wf1_19 (by decide) (nh_vr rfl hk.2.2.2.2.2.1) dX1_firstMark_10 ?_
    refine lv_iload_n hx hb dX1_firstMark_13 rfl (lv_at hl 1 rfl) ?_
    refine ai_ld hx hb hK hw hk.2.2.2.2.2.2.1 rfl (ix_of pg hpg hp4 (by decide)) dX1_firstMark_14 ?_
    refine lv_goto (tgt := 23) hx hb dX1_firstMark_15 (by decide) ?_
    refine nh_iret hx hb hr rfl hlocks hw (Nat.zero_le _) (Nat.zero_le _) dX1_firstMark_23 ?_
    simp only [xf_firstMark, if_neg c6]
    exact im_fin rfl rfl
def xf_lastMark (J : (nh_N → Nat → Int32)) (k pg : Nat) (a : Int32) : Int32 := (if (J (xHM k) a.toNatClampNeg) = 0 then (xf_topMark J k pg a) else (J (xLT k) a.toNatClampNeg))
set_option maxHeartbeats 4000000 in
set_option maxRecDepth 100000 in
theorem cxf_lastMark (l : Launch) (D : va_G) (cA : Nat → ClassId) {S : nh_N → Option nh_C} {g : nh_N → Nat} {J : (nh_N → Nat → Int32)} {R : nh_N → Nat → Option nh_N} (k pg : Nat) (hk : xKs S R k) (a : Int32) (hpg : a = nI pg) (hp4 : pg < 40) : im_M l D cA yX1_lastMark vX1_lastMark 1 22 0 0 [.ref (g (xK k)), .int a] S g J R (im_eq (some (.int (xf_lastMark J k pg a))) S g J R) := by
  refine nh_of (cc := cX1_lastMark) (maxL := 2) (ret := (some .int)) (by decide) rfl (Nat.le_of_ble_eq_true rfl) ?_
  intro p e s m below meth c A ls hx hb hr hml hts hown hlocks hin hK hw hl
  have ht : ∀ w ∈ im_ws, w.before _ s = true := fun w h => hts w (List.mem_cons_of_mem _ h)
  have hl : lv_has ls 2 [(0, .ref (g (xK k))), (1, .int a)] := hl
  refine lv_aload_n hx hb dX1_lastMark_0 rfl (lv_at hl 0 rfl) ?_
  refine fg1 hx hb ht hown hK hw hk.1 rfl 4 wf1_15 (by decide) (nh_vr rfl hk.2.2.2.1) dX1_lastMark_1 ?_
  refine lv_iload_n hx hb dX1_lastMark_4 rfl (lv_at hl 1 rfl) ?_
  refine az_ld hx hb hK hw hk.2.2.2.2.1 rfl (ix_of pg hpg hp4 (by decide)) dX1_lastMark_5 ?_
  refine lv_if_eq (tgt := 18) hx hb dX1_lastMark_6 (by decide) (fun c6 => ?_) (fun c6 => ?_)
  · refine lv_aload_n hx hb dX1_lastMark_18 rfl (lv_at hl 0 rfl) ?_
    refine lv_iload_n hx hb dX1_lastMark_19 rfl (lv_at hl 1 rfl) ?_
    refine kcX1_topMark (As := [.int a]) (rest := []) wm1_42 (cxf_topMark l D cA k hk a pg hpg (by omega)) hx hb hml ht hown hK hw hk.1 rfl rfl hl.1 rfl (by simp [Value.category]) ⟨by decide, by decide⟩ ⟨by simp, by simp⟩ dX1_lastMark_20 (fun v S1 g1 I1 R1 H locs hp hw => ?_)
    obtain ⟨rfl, h1, h2, h3, h4⟩ := hp
    rw [h1, h2, h3, h4] at hw
    clear h1 h2 h3 h4
    show W _ _ _ _ _ _ _ _ _ _ _ _ _ _ _ (F0 m 23 ls [.int (xf_topMark J k pg a)])
    refine nh_iret hx hb hr rfl hlocks hw (Nat.zero_le _) (Nat.zero_le _) dX1_lastMark_23 ?_
    simp only [xf_lastMark, if_pos c6]
    exact im_fin rfl rfl
  · refine lv_aload_n hx hb dX1_lastMark_9 rfl (lv_at hl 0 rfl) ?_
    refine fg1 hx hb ht hown hK hw hk.1 rfl 6 wf1_22 (by decide) (nh_vr rfl hk.2.2.2.2.2.2.2.1) dX1_lastMark_10 ?_
    refine lv_iload_n hx hb dX1_lastMark_13 rfl (lv_at hl 1 rfl) ?_
    refine ai_ld hx hb hK hw hk.2.2.2.2.2.2.2.2 rfl (ix_of pg hpg hp4 (by decide)) dX1_lastMark_14 ?_
    refine lv_goto (tgt := 23) hx hb dX1_lastMark_15 (by decide) ?_
    refine nh_iret hx hb hr rfl hlocks hw (Nat.zero_le _) (Nat.zero_le _) dX1_lastMark_23 ?_
    simp only [xf_lastMark, if_neg c6]
    exact im_fin rfl rfl
/-- which of n things, of N at most, an int means -/
def xat (n : Nat) (a : Int32) : Option Nat := if 0 ≤ a.toInt ∧ a.toInt < n then some a.toNatClampNeg else none
theorem xat_some {n : Nat} {a : Int32} {j : Nat} (h : xat n a = some j) (hn : n < 2 ^ 31) : a = nI j ∧ j < n := by
  unfold xat at h
  split at h
  · rename_i h1
    cases h
    obtain ⟨q, hq, rfl⟩ := vp_in_of (vp_in_iff.mpr h1) hn
    rw [nI_clamp (by omega)]
    exact ⟨rfl, hq⟩
  · cases h
theorem xat_nI {n j : Nat} (hj : j < 2 ^ 31) : xat n (nI j) = if j < n then some j else none := by
  unfold xat
  rw [nI_toInt hj, nI_clamp hj]
  by_cases h : j < n
  · rw [if_pos (by omega), if_pos h]
  · rw [if_neg (by omega), if_neg h]
theorem xat_out {J : nh_N → Nat → Int32} {a d : Int32} {n N : Nat} (h : xf_isWithin J a 0 d = 0) (hd : d.toInt = (N : Int) - 1) (hn : n ≤ N) : xat n a = none := by
  unfold xf_isWithin at h
  unfold xat
  rw [if_neg]
  intro q
  have h1 : (0 : Int32) ≤ a := Int32.le_iff_toInt_le.mpr (by rw [Int32.toInt_zero]; exact q.1)
  have h2 : a ≤ d := Int32.le_iff_toInt_le.mpr (by rw [hd]; omega)
  simp [h1, h2] at h
theorem xat_in {J : nh_N → Nat → Int32} {a d : Int32} {N : Nat} (h : ¬ xf_isWithin J a 0 d = 0) (hd : d.toInt = (N : Int) - 1) : vp_in a N := by
  unfold xf_isWithin at h
  by_cases h1 : (0 : Int32) ≤ a
  · by_cases h2 : a ≤ d
    · rw [vp_in_iff]
      have e1 := Int32.le_iff_toInt_le.mp h1
      have e2 := Int32.le_iff_toInt_le.mp h2
      rw [Int32.toInt_zero] at e1
      omega
    · simp [h2] at h
  · simp [h1] at h
theorem xat_rd {R : nh_N → Nat → Option nh_N} {g : nh_N → Nat} {A : nh_N} {f : Nat → nh_N} {a : Int32} {n N : Nat} (hA : ∀ j, j < N → R A j = if j < n then some (f j) else none) (hin : vp_in a N) (hN : N < 2 ^ 31) : (R A a.toNatClampNeg).map g = (xat n a).map (fun j => g (f j)) := by
  obtain ⟨j, hj, rfl⟩ := vp_in_of hin hN
  rw [nI_clamp (by omega), hA j hj, xat_nI (by omega)]
  by_cases h : j < n <;> simp [h]
set_option maxHeartbeats 4000000 in
set_option maxRecDepth 100000 in
theorem cxf_kindAt (l : Launch) (D : va_G) (cA : Nat → ClassId) {S : nh_N → Option nh_C} {g : nh_N → Nat} {J : (nh_N → Nat → Int32)} {R : nh_N → Nat → Option nh_N}  (hX : xXs S R) (a : Int32) (n : Nat) (hn : n ≤ 8) (hA : ∀ j, j < 8 → R xKA j = if j < n then some (xK j) else none) : im_M l D cA yX5_kindAt vX5_kindAt 1 22 0 0 [.ref (g xX), .int a] S g J R (im_eq (some (va_rf ((xat n a).map (fun j => g (xK j))))) S g J R) := by
  refine nh_of (cc := cX5_kindAt) (maxL := 2) (ret := (some (.object "InsertMarks$Kind"))) (by decide) rfl (Nat.le_of_ble_eq_true rfl) ?_
  intro p e s m below meth c A ls hx hb hr hml hts hown hlocks hin hK hw hl
  have ht : ∀ w ∈ im_ws, w.before _ s = true := fun w h => hts w (List.mem_cons_of_mem _ h)
  have hl : lv_has ls 2 [(0, .ref (g xX)), (1, .int a)] := hl
  refine lv_iload_n hx hb dX5_kindAt_0 rfl (lv_at hl 1 rfl) ?_
  refine lv_iconst (v := 0) hx hb dX5_kindAt_1 (by decide) ?_
  refine lv_bipush (v := 7) hx hb dX5_kindAt_2 (by decide) ?_
  refine kcX5_isWithin (As := [.int a, .int 0, .int 7]) (rest := []) wm5_47 (cxf_isWithin l D cA a 0 7) hx hb hml ht hown hK hw rfl hl.1 rfl (by simp [Value.category]) ⟨by decide, by decide⟩ ⟨by simp, by simp⟩ dX5_kindAt_4 (fun v S1 g1 I1 R1 H locs hp hw => ?_)
  obtain ⟨rfl, h1, h2, h3, h4⟩ := hp
  rw [h1, h2, h3, h4] at hw
  clear h1 h2 h3 h4
  show W _ _ _ _ _ _ _ _ _ _ _ _ _ _ _ (F0 m 7 ls [.int (xf_isWithin J a 0 7)])
  refine lv_if_eq (tgt := 19) hx hb dX5_kindAt_7 (by decide) (fun c7 => ?_) (fun c7 => ?_)
  · refine lv_null hx hb dX5_kindAt_19 ?_
    refine nh_aret hx hb hr (Or.inl ⟨_, rfl⟩) (Or.inl rfl) hlocks hw (Nat.zero_le _) (Nat.zero_le _) dX5_kindAt_20 ?_
    exact im_fin (by rw [xat_out (N := 8) c7 (by decide) hn]; rfl) rfl
  · refine lv_aload_n hx hb dX5_kindAt_10 rfl (lv_at hl 0 rfl) ?_
    refine fg5 hx hb ht hown hK hw hX.1 rfl 1 wf5_11 (by decide) (nh_vr rfl hX.2.1) dX5_kindAt_11 ?_
    refine lv_iload_n hx hb dX5_kindAt_14 rfl (lv_at hl 1 rfl) ?_
    refine ar_ld1 (v := va_rf ((R xKA a.toNatClampNeg).map g)) hx hb hK hw hX.2.2.1 rfl (xat_in (N := 8) c7 (by decide)) rfl dX5_kindAt_15 ?_
    refine lv_goto (tgt := 20) hx hb dX5_kindAt_16 (by decide) ?_
    refine nh_aret hx hb hr (Or.inl ⟨_, rfl⟩) (va_rf_or _) hlocks hw (Nat.zero_le _) (Nat.zero_le _) dX5_kindAt_20 ?_
    exact im_fin (by rw [xat_rd hA (xat_in (N := 8) c7 (by decide)) (by decide)]) rfl
set_option maxHeartbeats 4000000 in
set_option maxRecDepth 100000 in
theorem cxf_insertAt (l : Launch) (D : va_G) (cA : Nat → ClassId) {S : nh_N → Option nh_C} {g : nh_N → Nat} {J : (nh_N → Nat → Int32)} {R : nh_N → Nat → Option nh_N}  (hX : xXs S R) (a : Int32) (n : Nat) (hn : n ≤ 200) (hA : ∀ j, j < 200 → R xIA j = if j < n then some (xN j) else none) : im_M l D cA yX5_insertAt vX5_insertAt 1 22 0 0 [.ref (g xX), .int a] S g J R (im_eq (some (va_rf ((xat n a).map (fun j => g (xN j))))) S g J R) := by
  refine nh_of (cc := cX5_insertAt) (maxL := 2) (ret := (some (.object "InsertMarks$Insert"))) (by decide) rfl (Nat.le_of_ble_eq_true rfl) ?_
  intro p e s m below meth c A ls hx hb hr hml hts hown hlocks hin hK hw hl
  have ht : ∀ w ∈ im_ws, w.before _ s = true := fun w h => hts w (List.mem_cons_of_mem _ h)
  have hl : lv_has ls 2 [(0, .ref (g xX)), (1, .int a)] := hl
  refine lv_iload_n hx hb dX5_insertAt_0 rfl (lv_at hl 1 rfl) ?_
  refine lv_iconst (v := 0) hx hb dX5_insertAt_1 (by decide) ?_
  refine lv_sipush (v := 199) hx hb dX5_insertAt_2 (by decide) ?_
  refine kcX5_isWithin (As := [.int a, .int 0, .int 199]) (rest := []) wm5_47 (cxf_isWithin l D cA a 0 199) hx hb hml ht hown hK hw rfl hl.1 rfl (by simp [Value.category]) ⟨by decide, by decide⟩ ⟨by simp, by simp⟩ dX5_insertAt_5 (fun v S1 g1 I1 R1 H locs hp hw => ?_)
  obtain ⟨rfl, h1, h2, h3, h4⟩ := hp
  rw [h1, h2, h3, h4] at hw
  clear h1 h2 h3 h4
  show W _ _ _ _ _ _ _ _ _ _ _ _ _ _ _ (F0 m 8 ls [.int (xf_isWithin J a 0 199)])
  refine lv_if_eq (tgt := 20) hx hb dX5_insertAt_8 (by decide) (fun c8 => ?_) (fun c8 => ?_)
  · refine lv_null hx hb dX5_insertAt_20 ?_
    refine nh_aret hx hb hr (Or.inl ⟨_, rfl⟩) (Or.inl rfl) hlocks hw (Nat.zero_le _) (Nat.zero_le _) dX5_insertAt_21 ?_
    exact im_fin (by rw [xat_out (N := 200) c8 (by decide) hn]; rfl) rfl
  · refine lv_aload_n hx hb dX5_insertAt_11 rfl (lv_at hl 0 rfl) ?_
    refine fg5 hx hb ht hown hK hw hX.1 rfl 2 wf5_17 (by decide) (nh_vr rfl hX.2.2.2.1) dX5_insertAt_12 ?_
    refine lv_iload_n hx hb dX5_insertAt_15 rfl (lv_at hl 1 rfl) ?_
    refine ar_ld0 (v := va_rf ((R xIA a.toNatClampNeg).map g)) hx hb hK hw hX.2.2.2.2.1 rfl (xat_in (N := 200) c8 (by decide)) rfl dX5_insertAt_16 ?_
    refine lv_goto (tgt := 21) hx hb dX5_insertAt_17 (by decide) ?_
    refine nh_aret hx hb hr (Or.inl ⟨_, rfl⟩) (va_rf_or _) hlocks hw (Nat.zero_le _) (Nat.zero_le _) dX5_insertAt_21 ?_
    exact im_fin (by rw [xat_rd hA (xat_in (N := 200) c8 (by decide)) (by decide)]) rfl
set_option maxHeartbeats 4000000 in
set_option maxRecDepth 100000 in
theorem cxf_closedPageAt (l : Launch) (D : va_G) (cA : Nat → ClassId) {S : nh_N → Option nh_C} {g : nh_N → Nat} {J : (nh_N → Nat → Int32)} {R : nh_N → Nat → Option nh_N}  (hX : xXs S R) (a : Int32) (n : Nat) (hn : n ≤ 40) (hA : ∀ j, j < 40 → R xPA j = if j < n then some (xP j) else none) : im_M l D cA yX5_closedPageAt vX5_closedPageAt 2 42 0 0 [.ref (g xX), .int a] S g J R (im_eq (some (va_rf ((xat n a).map (fun j => g (xP j))))) S g J R) := by
  refine nh_of (cc := cX5_closedPageAt) (maxL := 2) (ret := (some (.object "InsertMarks$Page"))) (by decide) rfl (Nat.le_of_ble_eq_true rfl) ?_
  intro p e s m below meth c A ls hx hb hr hml hts hown hlocks hin hK hw hl
  have ht : ∀ w ∈ im_ws, w.before _ s = true := fun w h => hts w (List.mem_cons_of_mem _ h)
  have hl : lv_has ls 2 [(0, .ref (g xX)), (1, .int a)] := hl
  refine lv_iload_n hx hb dX5_closedPageAt_0 rfl (lv_at hl 1 rfl) ?_
  refine kcX5_isPage (As := [.int a]) (rest := []) wm5_61 (cxf_isPage l D cA a) hx hb hml ht hown hK hw rfl hl.1 rfl (by simp [Value.category]) ⟨by decide, by decide⟩ ⟨by simp, by simp⟩ dX5_closedPageAt_1 (fun v S1 g1 I1 R1 H locs hp hw => ?_)
  obtain ⟨rfl, h1, h2, h3, h4⟩ := hp
  rw [h1, h2, h3, h4] at hw
  clear h1 h2 h3 h4
  show W _ _ _ _ _ _ _ _ _ _ _ _ _ _ _ (F0 m 4 ls [.int (xf_isPage J a)])
  refine lv_if_eq (tgt := 16) hx hb dX5_closedPageAt_4 (by decide) (fun c4 => ?_) (fun c4 => ?_)
  · refine lv_null hx hb dX5_closedPageAt_16 ?_
    refine nh_aret hx hb hr (Or.inl ⟨_, rfl⟩) (Or.inl rfl) hlocks hw (Nat.zero_le _) (Nat.zero_le _) dX5_closedPageAt_17 ?_
    exact im_fin (by rw [xat_out (N := 40) c4 (by decide) hn]; rfl) rfl
  · refine lv_aload_n hx hb dX5_closedPageAt_7 rfl (lv_at hl 0 rfl) ?_
    refine fg5 hx hb ht hown hK hw hX.1 rfl 3 wf5_23 (by decide) (nh_vr rfl hX.2.2.2.2.2.1) dX5_closedPageAt_8 ?_
    refine lv_iload_n hx hb dX5_closedPageAt_11 rfl (lv_at hl 1 rfl) ?_
    refine ar_ld3 (v := va_rf ((R xPA a.toNatClampNeg).map g)) hx hb hK hw hX.2.2.2.2.2.2.1 rfl (xat_in (N := 40) c4 (by decide)) rfl dX5_closedPageAt_12 ?_
    refine lv_goto (tgt := 17) hx hb dX5_closedPageAt_13 (by decide) ?_
    refine nh_aret hx hb hr (Or.inl ⟨_, rfl⟩) (va_rf_or _) hlocks hw (Nat.zero_le _) (Nat.zero_le _) dX5_closedPageAt_17 ?_
    exact im_fin (by rw [xat_rd hA (xat_in (N := 40) c4 (by decide)) (by decide)]) rfl
set_option maxHeartbeats 4000000 in
set_option maxRecDepth 100000 in
theorem cxf_partAt (l : Launch) (D : va_G) (cA : Nat → ClassId) {S : nh_N → Option nh_C} {g : nh_N → Nat} {J : (nh_N → Nat → Int32)} {R : nh_N → Nat → Option nh_N} (q n : Nat) (hp0 : xPs S R q n) (a : Int32) (t : Nat) (ht0 : J (xP q) 2 = nI t) (htn : t ≤ n) (hn2 : n ≤ 200) (hA : ∀ j, j < t → R (xPP q) j = some (xQ q j)) : im_M l D cA yX3_partAt vX3_partAt 1 22 0 0 [.ref (g (xP q)), .int a] S g J R (im_eq (some (va_rf ((xat t a).map (fun j => g (xQ q j))))) S g J R) := by
  refine nh_of (cc := cX3_partAt) (maxL := 2) (ret := (some (.object "InsertMarks$Part"))) (by decide) rfl (Nat.le_of_ble_eq_true rfl) ?_
  intro p e s m below meth c A ls hx hb hr hml hts hown hlocks hin hK hw hl
  have ht : ∀ w ∈ im_ws, w.before _ s = true := fun w h => hts w (List.mem_cons_of_mem _ h)
  have hl : lv_has ls 2 [(0, .ref (g (xP q))), (1, .int a)] := hl
  refine lv_iload_n hx hb dX3_partAt_0 rfl (lv_at hl 1 rfl) ?_
  refine lv_iconst (v := 0) hx hb dX3_partAt_1 (by decide) ?_
  refine lv_aload_n hx hb dX3_partAt_2 rfl (lv_at hl 0 rfl) ?_
  refine fg3 (v := .int (J (xP q) 2)) hx hb ht hown hK hw hp0.1 rfl 2 wf3_25 (by decide) (nh_vi rfl) dX3_partAt_3 ?_
  refine lv_iconst (v := 1) hx hb dX3_partAt_6 (by decide) ?_
  refine lv_isub hx hb dX3_partAt_7 ?_
  refine kn3_isWithin (As := [.int a, .int 0, .int ((J (xP q) 2) - 1)]) (rest := []) (cxf_isWithin l D cA a 0 ((J (xP q) 2) - 1)) hx hb hml ht hown hK hw rfl hl.1 rfl (by simp [Value.category]) ⟨by decide, by decide⟩ ⟨by simp, by simp⟩ dX3_partAt_8 (fun v S1 g1 I1 R1 H locs hp hw => ?_)
  obtain ⟨rfl, h1, h2, h3, h4⟩ := hp
  rw [h1, h2, h3, h4] at hw
  clear h1 h2 h3 h4
  show W _ _ _ _ _ _ _ _ _ _ _ _ _ _ _ (F0 m 11 ls [.int (xf_isWithin J a 0 ((J (xP q) 2) - 1))])
  refine lv_if_eq (tgt := 23) hx hb dX3_partAt_11 (by decide) (fun c11 => ?_) (fun c11 => ?_)
  · refine lv_null hx hb dX3_partAt_23 ?_
    refine nh_aret hx hb hr (Or.inl ⟨_, rfl⟩) (Or.inl rfl) hlocks hw (Nat.zero_le _) (Nat.zero_le _) dX3_partAt_24 ?_
    exact im_fin (by rw [xat_out (N := t) c11 (by rw [ht0]; exact pk_sub_toInt (a := t) (b := 1) (by omega) (by omega)) (Nat.le_refl _)]; rfl) rfl
  · refine lv_aload_n hx hb dX3_partAt_14 rfl (lv_at hl 0 rfl) ?_
    refine fg3 hx hb ht hown hK hw hp0.1 rfl 1 wf3_21 (by decide) (nh_vr rfl hp0.2.1) dX3_partAt_15 ?_
    refine lv_iload_n hx hb dX3_partAt_18 rfl (lv_at hl 1 rfl) ?_
    refine ar_ld4 (v := va_rf ((R (xPP q) a.toNatClampNeg).map g)) hx hb hK hw hp0.2.2 rfl (by have h := xat_in (N := t) c11 (by rw [ht0]; exact pk_sub_toInt (a := t) (b := 1) (by omega) (by omega)); obtain ⟨j, hj, rfl⟩ := vp_in_of h (by omega); exact vp_in_nI (by omega) (by omega)) rfl dX3_partAt_19 ?_
    refine lv_goto (tgt := 24) hx hb dX3_partAt_20 (by decide) ?_
    refine nh_aret hx hb hr (Or.inl ⟨_, rfl⟩) (va_rf_or _) hlocks hw (Nat.zero_le _) (Nat.zero_le _) dX3_partAt_24 ?_
    exact im_fin (by rw [xat_rd (N := t) (n := t) (f := xQ q) (fun j hj => by rw [hA j hj, if_pos hj]) (xat_in (N := t) c11 (by rw [ht0]; exact pk_sub_toInt (a := t) (b := 1) (by omega) (by omega))) (by omega)]) rfl
end
section
def xHt (n : Nat) (_ : Nat) (J : nh_N → Nat → Int32) : Prop := J xLN 1 = nI n
def xOt (j c : Nat) (_ : nh_N → Nat → Int32) : Prop := c ≤ j
def xs_tk (a : Int32) (j : Nat) (c : Nat) (J : (nh_N → Nat → Int32)) : Nat × (nh_N → Nat → Int32) := (if (J xLR (nI j).toNatClampNeg) = a then (c, J) else ((c + 1), (iu J xLR (nI c).toNatClampNeg (J xLR (nI j).toNatClampNeg))))
def xl_tk (a : Int32) : Nat → Nat → Nat → (nh_N → Nat → Int32) → Nat × (nh_N → Nat → Int32)
  | 0, _, c, J => (c, J)
  | r + 1, j, c, J => xl_tk a r (j + 1) (xs_tk a j c J).1 (xs_tk a j c J).2
set_option maxHeartbeats 4000000 in
set_option maxRecDepth 100000 in
theorem xw_tk {p : Program} {l : Launch} {e : Env} {s : State} {m : MethodId} {below : List Frame} {meth : Method} {c0 : Code} {A : Nat → Prop} {D : va_G} {cA : Nat → ClassId} {S : nh_N → Option nh_C} {g : nh_N → Nat} {R : nh_N → Nat → Option nh_N} {av : Array Value} {Q : State → Prop} (hx : p.tables.exec = Jvm.exec) (hb : c0.code = cX2_takeOut) (hml : c0.maxLocals = 4) (ht : ∀ w ∈ im_ws, w.before av s = true) (hown : s.vm.findClass qR2 = some m.cls) (hK : im_K D cA s) (a : Int32) (hln : xLs S R)  (n : Nat) (hn2 : n ≤ 200) : ∀ (r j c : Nat) (J : (nh_N → Nat → Int32)) (H : Heap) (locs : List Loc) (ls : Array Slot), j + r = n → (∀ t, t ≤ r → xHt n (xl_tk a t j c J).1 (xl_tk a t j c J).2) → (∀ t, t < r → xOt (j + t) (xl_tk a t j c J).1 (xl_tk a t j c J).2) → nh_S D im_cl im_sk cA A s.heap S g J R H locs → lv_has ls 4 [(0, .ref (g xLN)), (1, .int a), (2, .int (nI c)), (3, .int (nI j))] → (∀ (H : Heap) (locs : List Loc) (ls : Array Slot), nh_S D im_cl im_sk cA A s.heap S g (xl_tk a r j c J).2 R H locs → lv_has ls 4 [(0, .ref (g xLN)), (1, .int a), (2, .int (nI (xl_tk a r j c J).1)), (3, .int (nI n))] → W p l e { frames := 0, cells := 0, slots := 0, locals := 0 } s m av below meth c0 H locs 0 0 Q (F0 m 43 ls [])) → W p l e { frames := 0, cells := 0, slots := 0, locals := 0 } s m av below meth c0 H locs 0 0 Q (F0 m 4 ls []) := by
  intro r
  induction r with
  | zero =>
    intro j c J H locs ls hj hh hOK hw hl kk
    have hh0 : xHt n c J := hh 0 (by omega)
    refine lv_iload_n hx hb dX2_takeOut_4 rfl (lv_at hl 3 rfl) ?_
    refine lv_aload_n hx hb dX2_takeOut_5 rfl (lv_at hl 0 rfl) ?_
    refine fg2 (v := .int (J xLN 1)) hx hb ht hown hK hw hln.1 rfl 1 wf2_15 (by decide) (nh_vi rfl) dX2_takeOut_6 ?_
    refine lv_icmp_ge (tgt := 43) hx hb dX2_takeOut_9 (by decide) (fun c9 => ?_) (fun c9 => ?_)
    · exact kk _ _ ls hw (by have h9 := lv_sub hl [0, 1, 2, 3] rfl; rw [show j = n by omega] at h9; exact h9)
    · exact absurd (by rw [show J xLN 1 = nI n from hh0]; exact nI_le (by omega) (by omega)) c9
  | succ r ih =>
    intro j c J H locs ls hj hh hOK hw hl kk
    have hh0 : xHt n c J := hh 0 (by omega)
    have hok : xOt j c J := hOK 0 (by omega)
    have hok : c ≤ j := hok
    have hj9 : vp_in (nI j) 200 := vp_in_nI (by omega) (by decide)
    have hc9 : vp_in (nI c) 200 := vp_in_nI (by omega) (by decide)
    refine lv_iload_n hx hb dX2_takeOut_4 rfl (lv_at hl 3 rfl) ?_
    refine lv_aload_n hx hb dX2_takeOut_5 rfl (lv_at hl 0 rfl) ?_
    refine fg2 (v := .int (J xLN 1)) hx hb ht hown hK hw hln.1 rfl 1 wf2_15 (by decide) (nh_vi rfl) dX2_takeOut_6 ?_
    refine lv_icmp_ge (tgt := 43) hx hb dX2_takeOut_9 (by decide) (fun c9 => ?_) (fun c9 => ?_)
    · exact absurd c9 (by rw [show J xLN 1 = nI n from hh0]; exact nI_ge (by omega) (by omega))
    · refine lv_aload_n hx hb dX2_takeOut_12 rfl (lv_at hl 0 rfl) ?_
      refine fg2 hx hb ht hown hK hw hln.1 rfl 0 wf2_9 (by decide) (nh_vr rfl hln.2.1) dX2_takeOut_13 ?_
      refine lv_iload_n hx hb dX2_takeOut_16 rfl (lv_at hl 3 rfl) ?_
      refine ai_ld hx hb hK hw hln.2.2 rfl hj9 dX2_takeOut_17 ?_
      refine lv_iload_n hx hb dX2_takeOut_18 rfl (lv_at hl 1 rfl) ?_
      refine lv_icmp_eq (tgt := 37) hx hb dX2_takeOut_19 (by decide) (fun c19 => ?_) (fun c19 => ?_)
      · refine lv_iinc (v := (nI j) + 1) (lv' := [(3, .int ((nI j) + 1)), (0, .ref (g xLN)), (1, .int a), (2, .int (nI c))]) hx hb dX2_takeOut_37 hl (k := 3) rfl rfl (by decide) rfl (fun ls hl => ?_)
        refine lv_goto (tgt := 4) hx hb dX2_takeOut_40 (by decide) ?_
        have h9 : lv_has ls 4 [(0, .ref (g xLN)), (1, .int a), (2, .int (nI c)), (3, .int ((nI j) + 1))] := lv_sub hl [1, 2, 3, 0] rfl
        rw [nI_1] at h9
        have hstep : xs_tk a j c J = (c, J) := by simp only [xs_tk, if_pos c19]
        have kk2 := kk
        simp only [xl_tk, hstep] at kk2
        exact ih (j + 1) c _ _ _ ls (by omega) (fun t h0 => by have h7 := hh (t + 1) (by omega); simp only [xl_tk, hstep] at h7; exact h7) (fun t h0 => by have h7 := hOK (t + 1) (by omega); rw [show j + (t + 1) = j + 1 + t by omega] at h7; simp only [xl_tk, hstep] at h7; exact h7) hw h9 kk2
      · refine lv_aload_n hx hb dX2_takeOut_22 rfl (lv_at hl 0 rfl) ?_
        refine fg2 hx hb ht hown hK hw hln.1 rfl 0 wf2_9 (by decide) (nh_vr rfl hln.2.1) dX2_takeOut_23 ?_
        refine lv_iload_n hx hb dX2_takeOut_26 rfl (lv_at hl 2 rfl) ?_
        refine lv_aload_n hx hb dX2_takeOut_27 rfl (lv_at hl 0 rfl) ?_
        refine fg2 hx hb ht hown hK hw hln.1 rfl 0 wf2_9 (by decide) (nh_vr rfl hln.2.1) dX2_takeOut_28 ?_
        refine lv_iload_n hx hb dX2_takeOut_31 rfl (lv_at hl 3 rfl) ?_
        refine ai_ld hx hb hK hw hln.2.2 rfl hj9 dX2_takeOut_32 ?_
        refine ai_st hx hb hK hw hln.2.2 rfl hc9 dX2_takeOut_33 (fun H locs J1 eJ1 hw => ?_)
        refine lv_iinc (v := (nI c) + 1) (lv' := [(2, .int ((nI c) + 1)), (0, .ref (g xLN)), (1, .int a), (3, .int (nI j))]) hx hb dX2_takeOut_34 hl (k := 2) rfl rfl (by decide) rfl (fun ls hl => ?_)
        refine lv_iinc (v := (nI j) + 1) (lv' := [(3, .int ((nI j) + 1)), (2, .int ((nI c) + 1)), (0, .ref (g xLN)), (1, .int a)]) hx hb dX2_takeOut_37 hl (k := 3) rfl rfl (by decide) rfl (fun ls hl => ?_)
        refine lv_goto (tgt := 4) hx hb dX2_takeOut_40 (by decide) ?_
        have h9 : lv_has ls 4 [(0, .ref (g xLN)), (1, .int a), (2, .int ((nI c) + 1)), (3, .int ((nI j) + 1))] := lv_sub hl [2, 3, 1, 0] rfl
        rw [nI_1] at h9
        try rw [nI_1] at h9
        subst eJ1
        have hstep : xs_tk a j c J = ((c + 1), (iu J xLR (nI c).toNatClampNeg (J xLR (nI j).toNatClampNeg))) := by simp only [xs_tk, if_neg c19]
        have kk2 := kk
        simp only [xl_tk, hstep] at kk2
        exact ih (j + 1) (c + 1) _ _ _ ls (by omega) (fun t h0 => by have h7 := hh (t + 1) (by omega); simp only [xl_tk, hstep] at h7; exact h7) (fun t h0 => by have h7 := hOK (t + 1) (by omega); rw [show j + (t + 1) = j + 1 + t by omega] at h7; simp only [xl_tk, hstep] at h7; exact h7) hw h9 kk2
set_option maxHeartbeats 4000000 in
set_option maxRecDepth 100000 in
theorem cxf_takeOut (l : Launch) (D : va_G) (cA : Nat → ClassId) {S : nh_N → Option nh_C} {g : nh_N → Nat} {J : (nh_N → Nat → Int32)} {R : nh_N → Nat → Option nh_N}  (hln : xLs S R) (a : Int32) (n : Nat) (hn2 : n ≤ 200) (T : Nat × (nh_N → Nat → Int32)) (hT : xl_tk a n 0 0 J = T) (hH : ∀ t, t ≤ n → xHt n (xl_tk a t 0 0 J).1 (xl_tk a t 0 0 J).2) (hO : ∀ t, t < n → xOt (0 + t) (xl_tk a t 0 0 J).1 (xl_tk a t 0 0 J).2) : im_M l D cA yX2_takeOut vX2_takeOut 0 0 0 0 [.ref (g xLN), .int a] S g J R (im_eq none S g (iu T.2 xLN 1 (nI T.1)) R) := by
  refine nh_of (cc := cX2_takeOut) (maxL := 4) (ret := none) (by decide) rfl (Nat.le_of_ble_eq_true rfl) ?_
  intro p e s m below meth c A ls hx hb hr hml hts hown hlocks hin hK hw hl
  have ht : ∀ w ∈ im_ws, w.before _ s = true := fun w h => hts w (List.mem_cons_of_mem _ h)
  have hl : lv_has ls 4 [(0, .ref (g xLN)), (1, .int a)] := hl
  refine lv_iconst (v := 0) hx hb dX2_takeOut_0 (by decide) ?_
  refine lv_istore_n (lv' := [(2, .int 0), (0, .ref (g xLN)), (1, .int a)]) hx hb dX2_takeOut_1 rfl hl (by decide) rfl (fun ls hl => ?_)
  refine lv_iconst (v := 0) hx hb dX2_takeOut_2 (by decide) ?_
  refine lv_istore_n (lv' := [(3, .int 0), (2, .int 0), (0, .ref (g xLN)), (1, .int a)]) hx hb dX2_takeOut_3 rfl hl (by decide) rfl (fun ls hl => ?_)
  refine xw_tk hx hb hml ht hown hK a hln n hn2 n 0 0 J _ _ ls (by omega) hH hO hw (by rw [nI_0]; exact lv_sub hl [2, 3, 1, 0] rfl) (fun H locs ls hw hl => ?_)
  rw [hT] at hw hl
  have hl : lv_has ls 4 [(0, .ref (g xLN)), (1, .int a), (2, .int (nI T.1)), (3, .int (nI n))] := hl
  refine lv_aload_n hx hb dX2_takeOut_43 rfl (lv_at hl 0 rfl) ?_
  refine lv_iload_n hx hb dX2_takeOut_44 rfl (lv_at hl 2 rfl) ?_
  refine fp2 hx hb ht hown hK hw hln.1 rfl 1 wf2_15 (by decide) rfl rfl rfl rfl dX2_takeOut_45 (fun H locs J1 eJ1 hw => ?_)
  refine nh_vret hx hb hr hlocks hw (Nat.zero_le _) (Nat.zero_le _) dX2_takeOut_48 ?_
  subst eJ1
  exact im_fin rfl rfl
theorem xtk_ok {a : Int32} {n : Nat} : ∀ (t j c : Nat) (J : nh_N → Nat → Int32), J xLN 1 = nI n → c ≤ j → (xl_tk a t j c J).2 xLN 1 = nI n ∧ (xl_tk a t j c J).1 ≤ j + t := by
  intro t
  induction t with
  | zero => intro j c J h hc; exact ⟨h, hc⟩
  | succ t ih =>
    intro j c J h hc
    have hs : (xs_tk a j c J).2 xLN 1 = nI n ∧ (xs_tk a j c J).1 ≤ j + 1 := by
      unfold xs_tk
      split
      · exact ⟨h, by show c ≤ j + 1; omega⟩
      · exact ⟨by simp [iu_e, xLN, xLR]; exact h, by show c + 1 ≤ j + 1; omega⟩
    have h2 := ih (j + 1) (xs_tk a j c J).1 (xs_tk a j c J).2 hs.1 hs.2
    exact ⟨h2.1, by have := h2.2; show (xl_tk a t (j + 1) (xs_tk a j c J).1 (xs_tk a j c J).2).1 ≤ j + (t + 1); omega⟩
def xf_takeOut (J : nh_N → Nat → Int32) (n : Nat) (a : Int32) : nh_N → Nat → Int32 := iu (xl_tk a n 0 0 J).2 xLN 1 (nI (xl_tk a n 0 0 J).1)
theorem cxg_takeOut (l : Launch) (D : va_G) (cA : Nat → ClassId) {S : nh_N → Option nh_C} {g : nh_N → Nat} {J : nh_N → Nat → Int32} {R : nh_N → Nat → Option nh_N} (hln : xLs S R) (a : Int32) (n : Nat) (hn : J xLN 1 = nI n) (hn2 : n ≤ 200) : im_M l D cA yX2_takeOut vX2_takeOut 0 0 0 0 [.ref (g xLN), .int a] S g J R (im_eq none S g (xf_takeOut J n a) R) :=
  cxf_takeOut l D cA hln a n hn2 _ rfl (fun t _ => (xtk_ok t 0 0 J hn (Nat.le_refl _)).1) (fun t _ => (xtk_ok t 0 0 J hn (Nat.le_refl _)).2)
/-- nk sorts, ni inserts, nc pages that are closed; kd: an insert's sort; pl, pn: a page's room for parts, its parts; ow: a part's insert -/
def xSh (S : nh_N → Option nh_C) (R : nh_N → Nat → Option nh_N) (nk ni nc : Nat) (kd pl pn : Nat → Nat) (ow : Nat → Nat → Nat) : Prop :=
  xXs S R ∧ (∀ j, j < 8 → R xKA j = if j < nk then some (xK j) else none) ∧ (∀ k, k < nk → xKs S R k) ∧ (∀ j, j < 200 → R xIA j = if j < ni then some (xN j) else none) ∧ (∀ i, i < ni → xNs S R i (kd i) ∧ kd i < nk) ∧ (∀ j, j < 40 → R xPA j = if j < nc then some (xP j) else none) ∧ (∀ q, q < nc → xPs S R q (pl q) ∧ pn q ≤ pl q ∧ pl q ≤ 200 ∧ ∀ j, j < pn q → R (xPP q) j = some (xQ q j) ∧ S (xQ q j) = some (0, 4) ∧ R (xQ q j) 0 = some (xN (ow q j)) ∧ ow q j < ni) ∧ nk ≤ 8 ∧ ni ≤ 200 ∧ nc ≤ 40
section XSH
variable {S : nh_N → Option nh_C} {R : nh_N → Nat → Option nh_N} {nk ni nc : Nat} {kd pl pn : Nat → Nat} {ow : Nat → Nat → Nat}
theorem xSh.X (h : xSh S R nk ni nc kd pl pn ow) : xXs S R := h.1
theorem xSh.KA (h : xSh S R nk ni nc kd pl pn ow) : ∀ j, j < 8 → R xKA j = if j < nk then some (xK j) else none := h.2.1
theorem xSh.K (h : xSh S R nk ni nc kd pl pn ow) : ∀ k, k < nk → xKs S R k := h.2.2.1
theorem xSh.IA (h : xSh S R nk ni nc kd pl pn ow) : ∀ j, j < 200 → R xIA j = if j < ni then some (xN j) else none := h.2.2.2.1
theorem xSh.N (h : xSh S R nk ni nc kd pl pn ow) : ∀ i, i < ni → xNs S R i (kd i) ∧ kd i < nk := h.2.2.2.2.1
theorem xSh.PA (h : xSh S R nk ni nc kd pl pn ow) : ∀ j, j < 40 → R xPA j = if j < nc then some (xP j) else none := h.2.2.2.2.2.1
theorem xSh.P (h : xSh S R nk ni nc kd pl pn ow) : ∀ q, q < nc → xPs S R q (pl q) ∧ pn q ≤ pl q ∧ pl q ≤ 200 ∧ ∀ j, j < pn q → R (xPP q) j = some (xQ q j) ∧ S (xQ q j) = some (0, 4) ∧ R (xQ q j) 0 = some (xN (ow q j)) ∧ ow q j < ni := h.2.2.2.2.2.2.1
theorem xSh.nk8 (h : xSh S R nk ni nc kd pl pn ow) : nk ≤ 8 := h.2.2.2.2.2.2.2.1
theorem xSh.ni2 (h : xSh S R nk ni nc kd pl pn ow) : ni ≤ 200 := h.2.2.2.2.2.2.2.2.1
theorem xSh.nc4 (h : xSh S R nk ni nc kd pl pn ow) : nc ≤ 40 := h.2.2.2.2.2.2.2.2.2
end XSH
def xf_about (J : (nh_N → Nat → Int32)) (ni : Nat) (a : Int32) (b : Int32) : Int32 := (match xat ni a with | none => (-1) | some i1 => (if b = 0 then (J (xN i1) 3) else (if b = 1 then (J (xN i1) 5) else (if b = 2 then (J (xN i1) 6) else (if b = 3 then (J (xN i1) 4) else (if b = 4 then (J (xN i1) 7) else (-2)))))))
set_option maxHeartbeats 4000000 in
set_option maxRecDepth 100000 in
theorem cxf_about (l : Launch) (D : va_G) (cA : Nat → ClassId) {S : nh_N → Option nh_C} {g : nh_N → Nat} {J : (nh_N → Nat → Int32)} {R : nh_N → Nat → Option nh_N}  {nk ni nc : Nat} {kd pl pn : Nat → Nat} {ow : Nat → Nat → Nat} (hsh : xSh S R nk ni nc kd pl pn ow) (a : Int32) (b : Int32)  : im_M l D cA yX5_about vX5_about 2 43 0 0 [.ref (g xX), .int a, .int b] S g J R (im_eq (some (.int (xf_about J ni a b))) S g J R) := by
  refine nh_of (cc := cX5_about) (maxL := 4) (ret := (some .int)) (by decide) rfl (Nat.le_of_ble_eq_true rfl) ?_
  intro p e s m below meth c A ls hx hb hr hml hts hown hlocks hin hK hw hl
  have ht : ∀ w ∈ im_ws, w.before _ s = true := fun w h => hts w (List.mem_cons_of_mem _ h)
  have hl : lv_has ls 4 [(0, .ref (g xX)), (1, .int a), (2, .int b)] := hl
  have hX := hsh.X
  refine lv_aload_n hx hb dX5_about_0 rfl (lv_at hl 0 rfl) ?_
  refine lv_iload_n hx hb dX5_about_1 rfl (lv_at hl 1 rfl) ?_
  refine kcX5_insertAt (As := [.int a]) (rest := []) wm5_91 (cxf_insertAt l D cA hX a ni hsh.ni2 hsh.IA) hx hb hml ht hown hK hw hX.1 rfl rfl hl.1 rfl (by simp [Value.category]) ⟨by decide, by decide⟩ ⟨by simp, by simp⟩ dX5_about_2 (fun v S1 g1 I1 R1 H locs hp hw => ?_)
  obtain ⟨rfl, h1, h2, h3, h4⟩ := hp
  rw [h1, h2, h3, h4] at hw
  clear h1 h2 h3 h4
  rcases ho2 : xat ni a with _ | i1
  · try rw [ho2]
    show W _ _ _ _ _ _ _ _ _ _ _ _ _ _ _ (F0 m 5 ls [.null])
    refine lv_astore_nN (lv' := [(3, .null), (0, .ref (g xX)), (1, .int a), (2, .int b)]) hx hb dX5_about_5 rfl hl (by decide) rfl (fun ls hl => ?_)
    refine lv_aload_nN hx hb dX5_about_6 rfl (lv_at hl 0 rfl) ?_
    refine lv_ifnonnullN hx hb dX5_about_7 ?_
    refine lv_iconst (v := (-1)) hx hb dX5_about_10 (by decide) ?_
    refine nh_iret hx hb hr rfl hlocks hw (Nat.zero_le _) (Nat.zero_le _) dX5_about_11 ?_
    simp only [xf_about, ho2]
    exact im_fin rfl rfl
  · try rw [ho2]
    obtain ⟨ei1, hi1⟩ := xat_some ho2 (Nat.lt_of_le_of_lt hsh.ni2 (by decide))
    have hn1 := hsh.N i1 hi1
    show W _ _ _ _ _ _ _ _ _ _ _ _ _ _ _ (F0 m 5 ls [.ref (g (xN i1))])
    refine lv_astore_n (lv' := [(3, .ref (g (xN i1))), (0, .ref (g xX)), (1, .int a), (2, .int b)]) hx hb dX5_about_5 rfl hl (by decide) rfl (fun ls hl => ?_)
    refine lv_aload_n hx hb dX5_about_6 rfl (lv_at hl 0 rfl) ?_
    refine lv_ifnonnull (tgt := 12) hx hb dX5_about_7 (by decide) ?_
    refine lv_iload_n hx hb dX5_about_12 rfl (lv_at hl 3 rfl) ?_
    by_cases c13_0 : b = 0
    · refine lv_tableIn (tgt := 48) hx hb dX5_about_13 (by rw [c13_0]; decide) (by rw [c13_0]; decide) (by rw [c13_0]; rfl) (by decide) ?_
      refine lv_aload_n hx hb dX5_about_48 rfl (lv_at hl 0 rfl) ?_
      refine fg0 (v := .int (J (xN i1) 3)) hx hb ht hown hK hw hn1.1.1 rfl 3 wf5_102 (by decide) (nh_vi rfl) dX5_about_49 ?_
      refine nh_iret hx hb hr rfl hlocks hw (Nat.zero_le _) (Nat.zero_le _) dX5_about_52 ?_
      simp only [xf_about, ho2, if_pos c13_0]
      exact im_fin rfl rfl
    by_cases c13_1 : b = 1
    · refine lv_tableIn (tgt := 53) hx hb dX5_about_13 (by rw [c13_1]; decide) (by rw [c13_1]; decide) (by rw [c13_1]; rfl) (by decide) ?_
      refine lv_aload_n hx hb dX5_about_53 rfl (lv_at hl 0 rfl) ?_
      refine fg0 (v := .int (J (xN i1) 5)) hx hb ht hown hK hw hn1.1.1 rfl 5 wf5_136 (by decide) (nh_vi rfl) dX5_about_54 ?_
      refine nh_iret hx hb hr rfl hlocks hw (Nat.zero_le _) (Nat.zero_le _) dX5_about_57 ?_
      simp only [xf_about, ho2, if_neg c13_0, if_pos c13_1]
      exact im_fin rfl rfl
    by_cases c13_2 : b = 2
    · refine lv_tableIn (tgt := 58) hx hb dX5_about_13 (by rw [c13_2]; decide) (by rw [c13_2]; decide) (by rw [c13_2]; rfl) (by decide) ?_
      refine lv_aload_n hx hb dX5_about_58 rfl (lv_at hl 0 rfl) ?_
      refine fg0 (v := .int (J (xN i1) 6)) hx hb ht hown hK hw hn1.1.1 rfl 6 wf5_139 (by decide) (nh_vi rfl) dX5_about_59 ?_
      refine nh_iret hx hb hr rfl hlocks hw (Nat.zero_le _) (Nat.zero_le _) dX5_about_62 ?_
      simp only [xf_about, ho2, if_neg c13_0, if_neg c13_1, if_pos c13_2]
      exact im_fin rfl rfl
    by_cases c13_3 : b = 3
    · refine lv_tableIn (tgt := 63) hx hb dX5_about_13 (by rw [c13_3]; decide) (by rw [c13_3]; decide) (by rw [c13_3]; rfl) (by decide) ?_
      refine lv_aload_n hx hb dX5_about_63 rfl (lv_at hl 0 rfl) ?_
      refine fg0 (v := .int (J (xN i1) 4)) hx hb ht hown hK hw hn1.1.1 rfl 4 wf5_129 (by decide) (nh_vi rfl) dX5_about_64 ?_
      refine nh_iret hx hb hr rfl hlocks hw (Nat.zero_le _) (Nat.zero_le _) dX5_about_67 ?_
      simp only [xf_about, ho2, if_neg c13_0, if_neg c13_1, if_neg c13_2, if_pos c13_3]
      exact im_fin rfl rfl
    by_cases c13_4 : b = 4
    · refine lv_tableIn (tgt := 68) hx hb dX5_about_13 (by rw [c13_4]; decide) (by rw [c13_4]; decide) (by rw [c13_4]; rfl) (by decide) ?_
      refine lv_aload_n hx hb dX5_about_68 rfl (lv_at hl 0 rfl) ?_
      refine fg0 (v := .int (J (xN i1) 7)) hx hb ht hown hK hw hn1.1.1 rfl 7 wf5_95 (by decide) (nh_vi rfl) dX5_about_69 ?_
      refine nh_iret hx hb hr rfl hlocks hw (Nat.zero_le _) (Nat.zero_le _) dX5_about_72 ?_
      simp only [xf_about, ho2, if_neg c13_0, if_neg c13_1, if_neg c13_2, if_neg c13_3, if_pos c13_4]
      exact im_fin rfl rfl
    · refine lv_tableOut (tgt := 73) hx hb dX5_about_13 (by have h0 := lv_neT c13_0 (show ((0 : Int32)).toInt = 0 from rfl); have h1 := lv_neT c13_1 (show ((1 : Int32)).toInt = 1 from rfl); have h2 := lv_neT c13_2 (show ((2 : Int32)).toInt = 2 from rfl); have h3 := lv_neT c13_3 (show ((3 : Int32)).toInt = 3 from rfl); have h4 := lv_neT c13_4 (show ((4 : Int32)).toInt = 4 from rfl); omega) (by decide) ?_
      refine lv_bipush (v := (-2)) hx hb dX5_about_73 (by decide) ?_
      refine nh_iret hx hb hr rfl hlocks hw (Nat.zero_le _) (Nat.zero_le _) dX5_about_75 ?_
      simp only [xf_about, ho2, if_neg c13_0, if_neg c13_1, if_neg c13_2, if_neg c13_3, if_neg c13_4]
      exact im_fin rfl rfl
def xf_held (J : (nh_N → Nat → Int32))  (a : Int32) : Int32 := (xf_indexAt J a)
set_option maxHeartbeats 4000000 in
set_option maxRecDepth 100000 in
theorem cxf_held (l : Launch) (D : va_G) (cA : Nat → ClassId) {S : nh_N → Option nh_C} {g : nh_N → Nat} {J : (nh_N → Nat → Int32)} {R : nh_N → Nat → Option nh_N}  {nk ni nc : Nat} {kd pl pn : Nat → Nat} {ow : Nat → Nat → Nat} (hsh : xSh S R nk ni nc kd pl pn ow) (a : Int32) (ln : Nat) (hln : J xLN 1 = nI ln) (hl2 : ln ≤ 200) : im_M l D cA yX5_held vX5_held 2 43 0 0 [.ref (g xX), .int a] S g J R (im_eq (some (.int (xf_held J a))) S g J R) := by
  refine nh_of (cc := cX5_held) (maxL := 2) (ret := (some .int)) (by decide) rfl (Nat.le_of_ble_eq_true rfl) ?_
  intro p e s m below meth c A ls hx hb hr hml hts hown hlocks hin hK hw hl
  have ht : ∀ w ∈ im_ws, w.before _ s = true := fun w h => hts w (List.mem_cons_of_mem _ h)
  have hl : lv_has ls 2 [(0, .ref (g xX)), (1, .int a)] := hl
  have hX := hsh.X
  refine lv_aload_n hx hb dX5_held_0 rfl (lv_at hl 0 rfl) ?_
  refine fg5 hx hb ht hown hK hw hX.1 rfl 4 wf5_30 (by decide) (nh_vr rfl hX.2.2.2.2.2.2.2.1) dX5_held_1 ?_
  refine lv_iload_n hx hb dX5_held_4 rfl (lv_at hl 1 rfl) ?_
  refine kcX2_indexAt (As := [.int a]) (rest := []) wm5_142 (cxf_indexAt l D cA hX.2.2.2.2.2.2.2.2 a ln hln hl2) hx hb hml ht hown hK hw hX.2.2.2.2.2.2.2.2.1 rfl rfl hl.1 rfl (by simp [Value.category]) ⟨by decide, by decide⟩ ⟨by simp, by simp⟩ dX5_held_5 (fun v S1 g1 I1 R1 H locs hp hw => ?_)
  obtain ⟨rfl, h1, h2, h3, h4⟩ := hp
  rw [h1, h2, h3, h4] at hw
  clear h1 h2 h3 h4
  show W _ _ _ _ _ _ _ _ _ _ _ _ _ _ _ (F0 m 8 ls [.int (xf_indexAt J a)])
  refine nh_iret hx hb hr rfl hlocks hw (Nat.zero_le _) (Nat.zero_le _) dX5_held_8 ?_
  exact im_fin rfl rfl
def xf_count (J : (nh_N → Nat → Int32))  (a : Int32) : Int32 := (if a = 0 then (J xX 5) else (if a = 1 then (J xX 6) else (if a = 2 then (J xX 7) else (if a = 3 then (J xX 8) else (if a = 4 then (J xLN 1) else (-2))))))
set_option maxHeartbeats 4000000 in
set_option maxRecDepth 100000 in
theorem cxf_count (l : Launch) (D : va_G) (cA : Nat → ClassId) {S : nh_N → Option nh_C} {g : nh_N → Nat} {J : (nh_N → Nat → Int32)} {R : nh_N → Nat → Option nh_N}  {nk ni nc : Nat} {kd pl pn : Nat → Nat} {ow : Nat → Nat → Nat} (hsh : xSh S R nk ni nc kd pl pn ow) (a : Int32)  : im_M l D cA yX5_count vX5_count 0 0 0 0 [.ref (g xX), .int a] S g J R (im_eq (some (.int (xf_count J a))) S g J R) := by
  refine nh_of (cc := cX5_count) (maxL := 2) (ret := (some .int)) (by decide) rfl (Nat.le_of_ble_eq_true rfl) ?_
  intro p e s m below meth c A ls hx hb hr hml hts hown hlocks hin hK hw hl
  have ht : ∀ w ∈ im_ws, w.before _ s = true := fun w h => hts w (List.mem_cons_of_mem _ h)
  have hl : lv_has ls 2 [(0, .ref (g xX)), (1, .int a)] := hl
  have hX := hsh.X
  refine lv_iload_n hx hb dX5_count_0 rfl (lv_at hl 1 rfl) ?_
  by_cases c1_0 : a = 0
  · refine lv_tableIn (tgt := 36) hx hb dX5_count_1 (by rw [c1_0]; decide) (by rw [c1_0]; decide) (by rw [c1_0]; rfl) (by decide) ?_
    refine lv_aload_n hx hb dX5_count_36 rfl (lv_at hl 0 rfl) ?_
    refine fg5 (v := .int (J xX 5)) hx hb ht hown hK hw hX.1 rfl 5 wf5_51 (by decide) (nh_vi rfl) dX5_count_37 ?_
    refine nh_iret hx hb hr rfl hlocks hw (Nat.zero_le _) (Nat.zero_le _) dX5_count_40 ?_
    simp only [xf_count, if_pos c1_0]
    exact im_fin rfl rfl
  by_cases c1_1 : a = 1
  · refine lv_tableIn (tgt := 41) hx hb dX5_count_1 (by rw [c1_1]; decide) (by rw [c1_1]; decide) (by rw [c1_1]; rfl) (by decide) ?_
    refine lv_aload_n hx hb dX5_count_41 rfl (lv_at hl 0 rfl) ?_
    refine fg5 (v := .int (J xX 6)) hx hb ht hown hK hw hX.1 rfl 6 wf5_68 (by decide) (nh_vi rfl) dX5_count_42 ?_
    refine nh_iret hx hb hr rfl hlocks hw (Nat.zero_le _) (Nat.zero_le _) dX5_count_45 ?_
    simp only [xf_count, if_neg c1_0, if_pos c1_1]
    exact im_fin rfl rfl
  by_cases c1_2 : a = 2
  · refine lv_tableIn (tgt := 46) hx hb dX5_count_1 (by rw [c1_2]; decide) (by rw [c1_2]; decide) (by rw [c1_2]; rfl) (by decide) ?_
    refine lv_aload_n hx hb dX5_count_46 rfl (lv_at hl 0 rfl) ?_
    refine fg5 (v := .int (J xX 7)) hx hb ht hown hK hw hX.1 rfl 7 wf5_74 (by decide) (nh_vi rfl) dX5_count_47 ?_
    refine nh_iret hx hb hr rfl hlocks hw (Nat.zero_le _) (Nat.zero_le _) dX5_count_50 ?_
    simp only [xf_count, if_neg c1_0, if_neg c1_1, if_pos c1_2]
    exact im_fin rfl rfl
  by_cases c1_3 : a = 3
  · refine lv_tableIn (tgt := 51) hx hb dX5_count_1 (by rw [c1_3]; decide) (by rw [c1_3]; decide) (by rw [c1_3]; rfl) (by decide) ?_
    refine lv_aload_n hx hb dX5_count_51 rfl (lv_at hl 0 rfl) ?_
    refine fg5 (v := .int (J xX 8)) hx hb ht hown hK hw hX.1 rfl 8 wf5_81 (by decide) (nh_vi rfl) dX5_count_52 ?_
    refine nh_iret hx hb hr rfl hlocks hw (Nat.zero_le _) (Nat.zero_le _) dX5_count_55 ?_
    simp only [xf_count, if_neg c1_0, if_neg c1_1, if_neg c1_2, if_pos c1_3]
    exact im_fin rfl rfl
  by_cases c1_4 : a = 4
  · refine lv_tableIn (tgt := 56) hx hb dX5_count_1 (by rw [c1_4]; decide) (by rw [c1_4]; decide) (by rw [c1_4]; rfl) (by decide) ?_
    refine lv_aload_n hx hb dX5_count_56 rfl (lv_at hl 0 rfl) ?_
    refine fg5 hx hb ht hown hK hw hX.1 rfl 4 wf5_30 (by decide) (nh_vr rfl hX.2.2.2.2.2.2.2.1) dX5_count_57 ?_
    refine fg2 (v := .int (J xLN 1)) hx hb ht hown hK hw hX.2.2.2.2.2.2.2.2.1 rfl 1 wf5_88 (by decide) (nh_vi rfl) dX5_count_60 ?_
    refine nh_iret hx hb hr rfl hlocks hw (Nat.zero_le _) (Nat.zero_le _) dX5_count_63 ?_
    simp only [xf_count, if_neg c1_0, if_neg c1_1, if_neg c1_2, if_neg c1_3, if_pos c1_4]
    exact im_fin rfl rfl
  · refine lv_tableOut (tgt := 64) hx hb dX5_count_1 (by have h0 := lv_neT c1_0 (show ((0 : Int32)).toInt = 0 from rfl); have h1 := lv_neT c1_1 (show ((1 : Int32)).toInt = 1 from rfl); have h2 := lv_neT c1_2 (show ((2 : Int32)).toInt = 2 from rfl); have h3 := lv_neT c1_3 (show ((3 : Int32)).toInt = 3 from rfl); have h4 := lv_neT c1_4 (show ((4 : Int32)).toInt = 4 from rfl); omega) (by decide) ?_
    refine lv_bipush (v := (-2)) hx hb dX5_count_64 (by decide) ?_
    refine nh_iret hx hb hr rfl hlocks hw (Nat.zero_le _) (Nat.zero_le _) dX5_count_66 ?_
    simp only [xf_count, if_neg c1_0, if_neg c1_1, if_neg c1_2, if_neg c1_3, if_neg c1_4]
    exact im_fin rfl rfl
theorem xi_v {J : nh_N → Nat → Int32} {a : Int32} (h : ¬ xf_isPage J a = 0) : vp_in a 40 := xat_in (N := 40) (d := 39) h (by decide)
theorem xi_cl {J : nh_N → Nat → Int32} {a : Int32} (h : ¬ xf_isPage J a = 0) : a = nI a.toNatClampNeg := by
  obtain ⟨j, hj, rfl⟩ := vp_in_of (xi_v h) (by decide)
  rw [nI_clamp (by omega)]
theorem xi_40 {J : nh_N → Nat → Int32} {a : Int32} (h : ¬ xf_isPage J a = 0) : a.toNatClampNeg < 40 := by
  obtain ⟨j, hj, rfl⟩ := vp_in_of (xi_v h) (by decide)
  rw [nI_clamp (by omega)]
  exact hj
def xf_seen (J : (nh_N → Nat → Int32)) (nk : Nat) (a : Int32) (b : Int32) (d : Int32) : Int32 := (match xat nk a with | none => 0 | some j1 => (if (xf_isPage J b) = 0 then 0 else (if d = 0 then (xf_topMark J j1 b.toNatClampNeg b) else (if d = 1 then (xf_firstMark J j1 b.toNatClampNeg b) else (if d = 2 then (xf_lastMark J j1 b.toNatClampNeg b) else 0)))))
set_option maxHeartbeats 4000000 in
set_option maxRecDepth 100000 in
theorem cxf_seen (l : Launch) (D : va_G) (cA : Nat → ClassId) {S : nh_N → Option nh_C} {g : nh_N → Nat} {J : (nh_N → Nat → Int32)} {R : nh_N → Nat → Option nh_N}  {nk ni nc : Nat} {kd pl pn : Nat → Nat} {ow : Nat → Nat → Nat} (hsh : xSh S R nk ni nc kd pl pn ow) (a : Int32) (b : Int32) (d : Int32)  : im_M l D cA yX5_seen vX5_seen 2 44 0 0 [.ref (g xX), .int a, .int b, .int d] S g J R (im_eq (some (.int (xf_seen J nk a b d))) S g J R) := by
  refine nh_of (cc := cX5_seen) (maxL := 5) (ret := (some .int)) (by decide) rfl (Nat.le_of_ble_eq_true rfl) ?_
  intro p e s m below meth c A ls hx hb hr hml hts hown hlocks hin hK hw hl
  have ht : ∀ w ∈ im_ws, w.before _ s = true := fun w h => hts w (List.mem_cons_of_mem _ h)
  have hl : lv_has ls 5 [(0, .ref (g xX)), (1, .int a), (2, .int b), (3, .int d)] := hl
  have hX := hsh.X
  refine lv_aload_n hx hb dX5_seen_0 rfl (lv_at hl 0 rfl) ?_
  refine lv_iload_n hx hb dX5_seen_1 rfl (lv_at hl 1 rfl) ?_
  refine kcX5_kindAt (As := [.int a]) (rest := []) wm5_57 (cxf_kindAt l D cA hX a nk hsh.nk8 hsh.KA) hx hb hml ht hown hK hw hX.1 rfl rfl hl.1 rfl (by simp [Value.category]) ⟨by decide, by decide⟩ ⟨by simp, by simp⟩ dX5_seen_2 (fun v S1 g1 I1 R1 H locs hp hw => ?_)
  obtain ⟨rfl, h1, h2, h3, h4⟩ := hp
  rw [h1, h2, h3, h4] at hw
  clear h1 h2 h3 h4
  rcases ho2 : xat nk a with _ | j1
  · try rw [ho2]
    show W _ _ _ _ _ _ _ _ _ _ _ _ _ _ _ (F0 m 5 ls [.null])
    refine lv_astoreN (lv' := [(4, .null), (0, .ref (g xX)), (1, .int a), (2, .int b), (3, .int d)]) hx hb dX5_seen_5 hl (by decide) rfl (fun ls hl => ?_)
    refine lv_aloadN hx hb dX5_seen_7 (lv_at hl 0 rfl) ?_
    refine lv_ifnullN (tgt := 19) hx hb dX5_seen_9 (by decide) ?_
    refine lv_iconst (v := 0) hx hb dX5_seen_19 (by decide) ?_
    refine nh_iret hx hb hr rfl hlocks hw (Nat.zero_le _) (Nat.zero_le _) dX5_seen_20 ?_
    simp only [xf_seen, ho2]
    exact im_fin rfl rfl
  · try rw [ho2]
    obtain ⟨ej1, hj1⟩ := xat_some ho2 (Nat.lt_of_le_of_lt hsh.nk8 (by decide))
    have hk1 := hsh.K j1 hj1
    show W _ _ _ _ _ _ _ _ _ _ _ _ _ _ _ (F0 m 5 ls [.ref (g (xK j1))])
    refine lv_astore (lv' := [(4, .ref (g (xK j1))), (0, .ref (g xX)), (1, .int a), (2, .int b), (3, .int d)]) hx hb dX5_seen_5 hl (by decide) rfl (fun ls hl => ?_)
    refine lv_aload hx hb dX5_seen_7 (lv_at hl 0 rfl) ?_
    refine lv_ifnull hx hb dX5_seen_9 ?_
    refine lv_iload_n hx hb dX5_seen_12 rfl (lv_at hl 3 rfl) ?_
    refine kcX5_isPage (As := [.int b]) (rest := []) wm5_61 (cxf_isPage l D cA b) hx hb hml ht hown hK hw rfl hl.1 rfl (by simp [Value.category]) ⟨by decide, by decide⟩ ⟨by simp, by simp⟩ dX5_seen_13 (fun v S1 g1 I1 R1 H locs hp hw => ?_)
    obtain ⟨rfl, h1, h2, h3, h4⟩ := hp
    rw [h1, h2, h3, h4] at hw
    clear h1 h2 h3 h4
    show W _ _ _ _ _ _ _ _ _ _ _ _ _ _ _ (F0 m 16 ls [.int (xf_isPage J b)])
    refine lv_if_ne (tgt := 21) hx hb dX5_seen_16 (by decide) (fun c16 => ?_) (fun c16 => ?_)
    · refine lv_iload_n hx hb dX5_seen_21 rfl (lv_at hl 4 rfl) ?_
      by_cases c22_0 : d = 0
      · refine lv_tableIn (tgt := 48) hx hb dX5_seen_22 (by rw [c22_0]; decide) (by rw [c22_0]; decide) (by rw [c22_0]; rfl) (by decide) ?_
        refine lv_aload hx hb dX5_seen_48 (lv_at hl 0 rfl) ?_
        refine lv_iload_n hx hb dX5_seen_50 rfl (lv_at hl 3 rfl) ?_
        refine kcX1_topMark (As := [.int b]) (rest := []) wm5_151 (cxf_topMark l D cA j1 hk1 b b.toNatClampNeg (xi_cl c16) (Nat.le_of_lt (xi_40 c16))) hx hb hml ht hown hK hw hk1.1 rfl rfl hl.1 rfl (by simp [Value.category]) ⟨by decide, by decide⟩ ⟨by simp, by simp⟩ dX5_seen_51 (fun v S1 g1 I1 R1 H locs hp hw => ?_)
        obtain ⟨rfl, h1, h2, h3, h4⟩ := hp
        rw [h1, h2, h3, h4] at hw
        clear h1 h2 h3 h4
        show W _ _ _ _ _ _ _ _ _ _ _ _ _ _ _ (F0 m 54 ls [.int (xf_topMark J j1 b.toNatClampNeg b)])
        refine nh_iret hx hb hr rfl hlocks hw (Nat.zero_le _) (Nat.zero_le _) dX5_seen_54 ?_
        simp only [xf_seen, ho2, if_neg c16, if_pos c22_0]
        exact im_fin rfl rfl
      by_cases c22_1 : d = 1
      · refine lv_tableIn (tgt := 55) hx hb dX5_seen_22 (by rw [c22_1]; decide) (by rw [c22_1]; decide) (by rw [c22_1]; rfl) (by decide) ?_
        refine lv_aload hx hb dX5_seen_55 (lv_at hl 0 rfl) ?_
        refine lv_iload_n hx hb dX5_seen_57 rfl (lv_at hl 3 rfl) ?_
        refine kcX1_firstMark (As := [.int b]) (rest := []) wm5_154 (cxf_firstMark l D cA j1 b.toNatClampNeg hk1 b (xi_cl c16) (xi_40 c16)) hx hb hml ht hown hK hw hk1.1 rfl rfl hl.1 rfl (by simp [Value.category]) ⟨by decide, by decide⟩ ⟨by simp, by simp⟩ dX5_seen_58 (fun v S1 g1 I1 R1 H locs hp hw => ?_)
        obtain ⟨rfl, h1, h2, h3, h4⟩ := hp
        rw [h1, h2, h3, h4] at hw
        clear h1 h2 h3 h4
        show W _ _ _ _ _ _ _ _ _ _ _ _ _ _ _ (F0 m 61 ls [.int (xf_firstMark J j1 b.toNatClampNeg b)])
        refine nh_iret hx hb hr rfl hlocks hw (Nat.zero_le _) (Nat.zero_le _) dX5_seen_61 ?_
        simp only [xf_seen, ho2, if_neg c16, if_neg c22_0, if_pos c22_1]
        exact im_fin rfl rfl
      by_cases c22_2 : d = 2
      · refine lv_tableIn (tgt := 62) hx hb dX5_seen_22 (by rw [c22_2]; decide) (by rw [c22_2]; decide) (by rw [c22_2]; rfl) (by decide) ?_
        refine lv_aload hx hb dX5_seen_62 (lv_at hl 0 rfl) ?_
        refine lv_iload_n hx hb dX5_seen_64 rfl (lv_at hl 3 rfl) ?_
        refine kcX1_lastMark (As := [.int b]) (rest := []) wm5_157 (cxf_lastMark l D cA j1 b.toNatClampNeg hk1 b (xi_cl c16) (xi_40 c16)) hx hb hml ht hown hK hw hk1.1 rfl rfl hl.1 rfl (by simp [Value.category]) ⟨by decide, by decide⟩ ⟨by simp, by simp⟩ dX5_seen_65 (fun v S1 g1 I1 R1 H locs hp hw => ?_)
        obtain ⟨rfl, h1, h2, h3, h4⟩ := hp
        rw [h1, h2, h3, h4] at hw
        clear h1 h2 h3 h4
        show W _ _ _ _ _ _ _ _ _ _ _ _ _ _ _ (F0 m 68 ls [.int (xf_lastMark J j1 b.toNatClampNeg b)])
        refine nh_iret hx hb hr rfl hlocks hw (Nat.zero_le _) (Nat.zero_le _) dX5_seen_68 ?_
        simp only [xf_seen, ho2, if_neg c16, if_neg c22_0, if_neg c22_1, if_pos c22_2]
        exact im_fin rfl rfl
      · refine lv_tableOut (tgt := 69) hx hb dX5_seen_22 (by have h0 := lv_neT c22_0 (show ((0 : Int32)).toInt = 0 from rfl); have h1 := lv_neT c22_1 (show ((1 : Int32)).toInt = 1 from rfl); have h2 := lv_neT c22_2 (show ((2 : Int32)).toInt = 2 from rfl); omega) (by decide) ?_
        refine lv_iconst (v := 0) hx hb dX5_seen_69 (by decide) ?_
        refine nh_iret hx hb hr rfl hlocks hw (Nat.zero_le _) (Nat.zero_le _) dX5_seen_70 ?_
        simp only [xf_seen, ho2, if_neg c16, if_neg c22_0, if_neg c22_1, if_neg c22_2]
        exact im_fin rfl rfl
    · refine lv_iconst (v := 0) hx hb dX5_seen_19 (by decide) ?_
      refine nh_iret hx hb hr rfl hlocks hw (Nat.zero_le _) (Nat.zero_le _) dX5_seen_20 ?_
      simp only [xf_seen, ho2, if_pos c16]
      exact im_fin rfl rfl
def xf_placed (J : (nh_N → Nat → Int32)) (nc : Nat) (pn : Nat → Nat) (ow : Nat → Nat → Nat) (a : Int32) (b : Int32) (d : Int32) : Int32 := (match xat nc a with | none => (-1) | some q1 => (match xat (pn q1) b with | none => (-1) | some j2 => (if d = 0 then (J (xN (ow q1 j2)) 0) else (if d = 1 then (J (xQ q1 j2) 1) else (if d = 2 then (J (xN (ow q1 j2)) 4) else (if d = 3 then (if (J (xQ q1 j2) 2) = 0 then 0 else 1) else (-1)))))))
set_option maxHeartbeats 4000000 in
set_option maxRecDepth 100000 in
theorem cxf_placed (l : Launch) (D : va_G) (cA : Nat → ClassId) {S : nh_N → Option nh_C} {g : nh_N → Nat} {J : (nh_N → Nat → Int32)} {R : nh_N → Nat → Option nh_N}  {nk ni nc : Nat} {kd pl pn : Nat → Nat} {ow : Nat → Nat → Nat} (hsh : xSh S R nk ni nc kd pl pn ow) (a : Int32) (b : Int32) (d : Int32) (hpn : ∀ q, q < nc → J (xP q) 2 = nI (pn q)) : im_M l D cA yX5_placed vX5_placed 3 63 0 0 [.ref (g xX), .int a, .int b, .int d] S g J R (im_eq (some (.int (xf_placed J nc pn ow a b d))) S g J R) := by
  refine nh_of (cc := cX5_placed) (maxL := 6) (ret := (some .int)) (by decide) rfl (Nat.le_of_ble_eq_true rfl) ?_
  intro p e s m below meth c A ls hx hb hr hml hts hown hlocks hin hK hw hl
  have ht : ∀ w ∈ im_ws, w.before _ s = true := fun w h => hts w (List.mem_cons_of_mem _ h)
  have hl : lv_has ls 6 [(0, .ref (g xX)), (1, .int a), (2, .int b), (3, .int d)] := hl
  have hX := hsh.X
  refine lv_aload_n hx hb dX5_placed_0 rfl (lv_at hl 0 rfl) ?_
  refine lv_iload_n hx hb dX5_placed_1 rfl (lv_at hl 1 rfl) ?_
  refine kcX5_closedPageAt (As := [.int a]) (rest := []) wm5_109 (cxf_closedPageAt l D cA hX a nc hsh.nc4 hsh.PA) hx hb hml ht hown hK hw hX.1 rfl rfl hl.1 rfl (by simp [Value.category]) ⟨by decide, by decide⟩ ⟨by simp, by simp⟩ dX5_placed_2 (fun v S1 g1 I1 R1 H locs hp hw => ?_)
  obtain ⟨rfl, h1, h2, h3, h4⟩ := hp
  rw [h1, h2, h3, h4] at hw
  clear h1 h2 h3 h4
  rcases ho2 : xat nc a with _ | q1
  · try rw [ho2]
    show W _ _ _ _ _ _ _ _ _ _ _ _ _ _ _ (F0 m 5 ls [.null])
    refine lv_astoreN (lv' := [(4, .null), (0, .ref (g xX)), (1, .int a), (2, .int b), (3, .int d)]) hx hb dX5_placed_5 hl (by decide) rfl (fun ls hl => ?_)
    refine lv_aloadN hx hb dX5_placed_7 (lv_at hl 0 rfl) ?_
    refine lv_ifnonnullN hx hb dX5_placed_9 ?_
    refine lv_iconst (v := (-1)) hx hb dX5_placed_12 (by decide) ?_
    refine nh_iret hx hb hr rfl hlocks hw (Nat.zero_le _) (Nat.zero_le _) dX5_placed_13 ?_
    simp only [xf_placed, ho2]
    exact im_fin rfl rfl
  · try rw [ho2]
    obtain ⟨eq1, hq1⟩ := xat_some ho2 (Nat.lt_of_le_of_lt hsh.nc4 (by decide))
    have hp1 := hsh.P q1 hq1
    show W _ _ _ _ _ _ _ _ _ _ _ _ _ _ _ (F0 m 5 ls [.ref (g (xP q1))])
    refine lv_astore (lv' := [(4, .ref (g (xP q1))), (0, .ref (g xX)), (1, .int a), (2, .int b), (3, .int d)]) hx hb dX5_placed_5 hl (by decide) rfl (fun ls hl => ?_)
    refine lv_aload hx hb dX5_placed_7 (lv_at hl 0 rfl) ?_
    refine lv_ifnonnull (tgt := 14) hx hb dX5_placed_9 (by decide) ?_
    refine lv_aload hx hb dX5_placed_14 (lv_at hl 0 rfl) ?_
    refine lv_iload_n hx hb dX5_placed_16 rfl (lv_at hl 3 rfl) ?_
    refine kcX3_partAt (As := [.int b]) (rest := []) wm5_113 (cxf_partAt l D cA q1 (pl q1) hp1.1 b (pn q1) (hpn q1 hq1) hp1.2.1 hp1.2.2.1 (fun j hj => (hp1.2.2.2 j hj).1)) hx hb hml ht hown hK hw hp1.1.1 rfl rfl hl.1 rfl (by simp [Value.category]) ⟨by decide, by decide⟩ ⟨by simp, by simp⟩ dX5_placed_17 (fun v S1 g1 I1 R1 H locs hp hw => ?_)
    obtain ⟨rfl, h1, h2, h3, h4⟩ := hp
    rw [h1, h2, h3, h4] at hw
    clear h1 h2 h3 h4
    rcases ho17 : xat (pn q1) b with _ | j2
    · try rw [ho17]
      show W _ _ _ _ _ _ _ _ _ _ _ _ _ _ _ (F0 m 20 ls [.null])
      refine lv_astoreN (lv' := [(5, .null), (4, .ref (g (xP q1))), (0, .ref (g xX)), (1, .int a), (2, .int b), (3, .int d)]) hx hb dX5_placed_20 hl (by decide) rfl (fun ls hl => ?_)
      refine lv_aloadN hx hb dX5_placed_22 (lv_at hl 0 rfl) ?_
      refine lv_ifnonnullN hx hb dX5_placed_24 ?_
      refine lv_iconst (v := (-1)) hx hb dX5_placed_27 (by decide) ?_
      refine nh_iret hx hb hr rfl hlocks hw (Nat.zero_le _) (Nat.zero_le _) dX5_placed_28 ?_
      simp only [xf_placed, ho2, ho17]
      exact im_fin rfl rfl
    · try rw [ho17]
      obtain ⟨ej2, hj2⟩ := xat_some ho17 (by have h1 := hp1.2.1; have h2 := hp1.2.2.1; omega)
      have hpj := hp1.2.2.2 j2 hj2
      show W _ _ _ _ _ _ _ _ _ _ _ _ _ _ _ (F0 m 20 ls [.ref (g (xQ q1 j2))])
      refine lv_astore (lv' := [(5, .ref (g (xQ q1 j2))), (4, .ref (g (xP q1))), (0, .ref (g xX)), (1, .int a), (2, .int b), (3, .int d)]) hx hb dX5_placed_20 hl (by decide) rfl (fun ls hl => ?_)
      refine lv_aload hx hb dX5_placed_22 (lv_at hl 0 rfl) ?_
      refine lv_ifnonnull (tgt := 29) hx hb dX5_placed_24 (by decide) ?_
      refine lv_iload_n hx hb dX5_placed_29 rfl (lv_at hl 5 rfl) ?_
      by_cases c30_0 : d = 0
      · refine lv_tableIn (tgt := 60) hx hb dX5_placed_30 (by rw [c30_0]; decide) (by rw [c30_0]; decide) (by rw [c30_0]; rfl) (by decide) ?_
        refine lv_aload hx hb dX5_placed_60 (lv_at hl 0 rfl) ?_
        refine fg4 hx hb ht hown hK hw hpj.2.1 rfl 0 wf5_117 (by decide) (nh_vr rfl hpj.2.2.1) dX5_placed_62 ?_
        refine fg0 (v := .int (J (xN (ow q1 j2)) 0)) hx hb ht hown hK hw (hsh.N _ hpj.2.2.2).1.1 rfl 0 wf5_123 (by decide) (nh_vi rfl) dX5_placed_65 ?_
        refine nh_iret hx hb hr rfl hlocks hw (Nat.zero_le _) (Nat.zero_le _) dX5_placed_68 ?_
        simp only [xf_placed, ho2, ho17, if_pos c30_0]
        exact im_fin rfl rfl
      by_cases c30_1 : d = 1
      · refine lv_tableIn (tgt := 69) hx hb dX5_placed_30 (by rw [c30_1]; decide) (by rw [c30_1]; decide) (by rw [c30_1]; rfl) (by decide) ?_
        refine lv_aload hx hb dX5_placed_69 (lv_at hl 0 rfl) ?_
        refine fg4 (v := .int (J (xQ q1 j2) 1)) hx hb ht hown hK hw hpj.2.1 rfl 1 wf5_126 (by decide) (nh_vi rfl) dX5_placed_71 ?_
        refine nh_iret hx hb hr rfl hlocks hw (Nat.zero_le _) (Nat.zero_le _) dX5_placed_74 ?_
        simp only [xf_placed, ho2, ho17, if_neg c30_0, if_pos c30_1]
        exact im_fin rfl rfl
      by_cases c30_2 : d = 2
      · refine lv_tableIn (tgt := 75) hx hb dX5_placed_30 (by rw [c30_2]; decide) (by rw [c30_2]; decide) (by rw [c30_2]; rfl) (by decide) ?_
        refine lv_aload hx hb dX5_placed_75 (lv_at hl 0 rfl) ?_
        refine fg4 hx hb ht hown hK hw hpj.2.1 rfl 0 wf5_117 (by decide) (nh_vr rfl hpj.2.2.1) dX5_placed_77 ?_
        refine fg0 (v := .int (J (xN (ow q1 j2)) 4)) hx hb ht hown hK hw (hsh.N _ hpj.2.2.2).1.1 rfl 4 wf5_129 (by decide) (nh_vi rfl) dX5_placed_80 ?_
        refine nh_iret hx hb hr rfl hlocks hw (Nat.zero_le _) (Nat.zero_le _) dX5_placed_83 ?_
        simp only [xf_placed, ho2, ho17, if_neg c30_0, if_neg c30_1, if_pos c30_2]
        exact im_fin rfl rfl
      by_cases c30_3 : d = 3
      · refine lv_tableIn (tgt := 84) hx hb dX5_placed_30 (by rw [c30_3]; decide) (by rw [c30_3]; decide) (by rw [c30_3]; rfl) (by decide) ?_
        refine lv_aload hx hb dX5_placed_84 (lv_at hl 0 rfl) ?_
        refine fg4 (v := .int (J (xQ q1 j2) 2)) hx hb ht hown hK hw hpj.2.1 rfl 2 wf5_132 (by decide) (nh_vi rfl) dX5_placed_86 ?_
        refine lv_if_eq (tgt := 96) hx hb dX5_placed_89 (by decide) (fun c89 => ?_) (fun c89 => ?_)
        · refine lv_iconst (v := 0) hx hb dX5_placed_96 (by decide) ?_
          refine nh_iret hx hb hr rfl hlocks hw (Nat.zero_le _) (Nat.zero_le _) dX5_placed_97 ?_
          simp only [xf_placed, ho2, ho17, if_neg c30_0, if_neg c30_1, if_neg c30_2, if_pos c30_3, if_pos c89]
          exact im_fin rfl rfl
        · refine lv_iconst (v := 1) hx hb dX5_placed_92 (by decide) ?_
          refine lv_goto (tgt := 97) hx hb dX5_placed_93 (by decide) ?_
          refine nh_iret hx hb hr rfl hlocks hw (Nat.zero_le _) (Nat.zero_le _) dX5_placed_97 ?_
          simp only [xf_placed, ho2, ho17, if_neg c30_0, if_neg c30_1, if_neg c30_2, if_pos c30_3, if_neg c89]
          exact im_fin rfl rfl
      · refine lv_tableOut (tgt := 98) hx hb dX5_placed_30 (by have h0 := lv_neT c30_0 (show ((0 : Int32)).toInt = 0 from rfl); have h1 := lv_neT c30_1 (show ((1 : Int32)).toInt = 1 from rfl); have h2 := lv_neT c30_2 (show ((2 : Int32)).toInt = 2 from rfl); have h3 := lv_neT c30_3 (show ((3 : Int32)).toInt = 3 from rfl); omega) (by decide) ?_
        refine lv_iconst (v := (-1)) hx hb dX5_placed_98 (by decide) ?_
        refine nh_iret hx hb hr rfl hlocks hw (Nat.zero_le _) (Nat.zero_le _) dX5_placed_99 ?_
        simp only [xf_placed, ho2, ho17, if_neg c30_0, if_neg c30_1, if_neg c30_2, if_neg c30_3]
        exact im_fin rfl rfl
def xf_used (J : (nh_N → Nat → Int32)) (nk nc : Nat) (a : Int32) (b : Int32) : Int32 := (match xat nk b with | none => (if (xf_isPage J a) = 0 then (-1) else (if b = (-1) then (match xat nc a with | none => 0 | some q1 => (J (xP q1) 3)) else (-1))) | some j1 => (if (xf_isPage J a) = 0 then (-1) else (J (xSO j1) a.toNatClampNeg)))
set_option maxHeartbeats 4000000 in
set_option maxRecDepth 100000 in
theorem cxf_used (l : Launch) (D : va_G) (cA : Nat → ClassId) {S : nh_N → Option nh_C} {g : nh_N → Nat} {J : (nh_N → Nat → Int32)} {R : nh_N → Nat → Option nh_N}  {nk ni nc : Nat} {kd pl pn : Nat → Nat} {ow : Nat → Nat → Nat} (hsh : xSh S R nk ni nc kd pl pn ow) (a : Int32) (b : Int32)  : im_M l D cA yX5_used vX5_used 3 63 0 0 [.ref (g xX), .int a, .int b] S g J R (im_eq (some (.int (xf_used J nk nc a b))) S g J R) := by
  refine nh_of (cc := cX5_used) (maxL := 5) (ret := (some .int)) (by decide) rfl (Nat.le_of_ble_eq_true rfl) ?_
  intro p e s m below meth c A ls hx hb hr hml hts hown hlocks hin hK hw hl
  have ht : ∀ w ∈ im_ws, w.before _ s = true := fun w h => hts w (List.mem_cons_of_mem _ h)
  have hl : lv_has ls 5 [(0, .ref (g xX)), (1, .int a), (2, .int b)] := hl
  have hX := hsh.X
  refine lv_aload_n hx hb dX5_used_0 rfl (lv_at hl 0 rfl) ?_
  refine lv_iload_n hx hb dX5_used_1 rfl (lv_at hl 2 rfl) ?_
  refine kcX5_kindAt (As := [.int b]) (rest := []) wm5_57 (cxf_kindAt l D cA hX b nk hsh.nk8 hsh.KA) hx hb hml ht hown hK hw hX.1 rfl rfl hl.1 rfl (by simp [Value.category]) ⟨by decide, by decide⟩ ⟨by simp, by simp⟩ dX5_used_2 (fun v S1 g1 I1 R1 H locs hp hw => ?_)
  obtain ⟨rfl, h1, h2, h3, h4⟩ := hp
  rw [h1, h2, h3, h4] at hw
  clear h1 h2 h3 h4
  rcases ho2 : xat nk b with _ | j1
  · try rw [ho2]
    show W _ _ _ _ _ _ _ _ _ _ _ _ _ _ _ (F0 m 5 ls [.null])
    refine lv_astore_nN (lv' := [(3, .null), (0, .ref (g xX)), (1, .int a), (2, .int b)]) hx hb dX5_used_5 rfl hl (by decide) rfl (fun ls hl => ?_)
    refine lv_iload_n hx hb dX5_used_6 rfl (lv_at hl 2 rfl) ?_
    refine kcX5_isPage (As := [.int a]) (rest := []) wm5_61 (cxf_isPage l D cA a) hx hb hml ht hown hK hw rfl hl.1 rfl (by simp [Value.category]) ⟨by decide, by decide⟩ ⟨by simp, by simp⟩ dX5_used_7 (fun v S1 g1 I1 R1 H locs hp hw => ?_)
    obtain ⟨rfl, h1, h2, h3, h4⟩ := hp
    rw [h1, h2, h3, h4] at hw
    clear h1 h2 h3 h4
    show W _ _ _ _ _ _ _ _ _ _ _ _ _ _ _ (F0 m 10 ls [.int (xf_isPage J a)])
    refine lv_if_eq (tgt := 22) hx hb dX5_used_10 (by decide) (fun c10 => ?_) (fun c10 => ?_)
    · refine lv_iconst (v := (-1)) hx hb dX5_used_22 (by decide) ?_
      refine nh_iret hx hb hr rfl hlocks hw (Nat.zero_le _) (Nat.zero_le _) dX5_used_23 ?_
      simp only [xf_used, ho2, if_pos c10]
      exact im_fin rfl rfl
    · refine lv_aload_nN hx hb dX5_used_13 rfl (lv_at hl 0 rfl) ?_
      refine lv_ifnonnullN hx hb dX5_used_14 ?_
      refine lv_iload_n hx hb dX5_used_17 rfl (lv_at hl 3 rfl) ?_
      refine lv_iconst (v := (-1)) hx hb dX5_used_18 (by decide) ?_
      refine lv_icmp_eq (tgt := 24) hx hb dX5_used_19 (by decide) (fun c19 => ?_) (fun c19 => ?_)
      · refine lv_aload_nN hx hb dX5_used_24 rfl (lv_at hl 0 rfl) ?_
        refine lv_ifnullN (tgt := 35) hx hb dX5_used_25 (by decide) ?_
        refine lv_aload_n hx hb dX5_used_35 rfl (lv_at hl 1 rfl) ?_
        refine lv_iload_n hx hb dX5_used_36 rfl (lv_at hl 2 rfl) ?_
        refine kcX5_closedPageAt (As := [.int a]) (rest := []) wm5_109 (cxf_closedPageAt l D cA hX a nc hsh.nc4 hsh.PA) hx hb hml ht hown hK hw hX.1 rfl rfl hl.1 rfl (by simp [Value.category]) ⟨by decide, by decide⟩ ⟨by simp, by simp⟩ dX5_used_37 (fun v S1 g1 I1 R1 H locs hp hw => ?_)
        obtain ⟨rfl, h1, h2, h3, h4⟩ := hp
        rw [h1, h2, h3, h4] at hw
        clear h1 h2 h3 h4
        rcases ho37 : xat nc a with _ | q1
        · try rw [ho37]
          show W _ _ _ _ _ _ _ _ _ _ _ _ _ _ _ (F0 m 40 ls [.null])
          refine lv_astoreN (lv' := [(4, .null), (3, .null), (0, .ref (g xX)), (1, .int a), (2, .int b)]) hx hb dX5_used_40 hl (by decide) rfl (fun ls hl => ?_)
          refine lv_aloadN hx hb dX5_used_42 (lv_at hl 0 rfl) ?_
          refine lv_ifnonnullN hx hb dX5_used_44 ?_
          refine lv_iconst (v := 0) hx hb dX5_used_47 (by decide) ?_
          refine lv_goto (tgt := 56) hx hb dX5_used_48 (by decide) ?_
          refine nh_iret hx hb hr rfl hlocks hw (Nat.zero_le _) (Nat.zero_le _) dX5_used_56 ?_
          simp only [xf_used, ho2, if_neg c10, if_pos c19, ho37]
          exact im_fin rfl rfl
        · try rw [ho37]
          obtain ⟨eq1, hq1⟩ := xat_some ho37 (Nat.lt_of_le_of_lt hsh.nc4 (by decide))
          have hp1 := hsh.P q1 hq1
          show W _ _ _ _ _ _ _ _ _ _ _ _ _ _ _ (F0 m 40 ls [.ref (g (xP q1))])
          refine lv_astore (lv' := [(4, .ref (g (xP q1))), (3, .null), (0, .ref (g xX)), (1, .int a), (2, .int b)]) hx hb dX5_used_40 hl (by decide) rfl (fun ls hl => ?_)
          refine lv_aload hx hb dX5_used_42 (lv_at hl 0 rfl) ?_
          refine lv_ifnonnull (tgt := 51) hx hb dX5_used_44 (by decide) ?_
          refine lv_aload hx hb dX5_used_51 (lv_at hl 0 rfl) ?_
          refine fg3 (v := .int (J (xP q1) 3)) hx hb ht hown hK hw hp1.1.1 rfl 3 wf5_150 (by decide) (nh_vi rfl) dX5_used_53 ?_
          refine nh_iret hx hb hr rfl hlocks hw (Nat.zero_le _) (Nat.zero_le _) dX5_used_56 ?_
          simp only [xf_used, ho2, if_neg c10, if_pos c19, ho37]
          exact im_fin rfl rfl
      · refine lv_iconst (v := (-1)) hx hb dX5_used_22 (by decide) ?_
        refine nh_iret hx hb hr rfl hlocks hw (Nat.zero_le _) (Nat.zero_le _) dX5_used_23 ?_
        simp only [xf_used, ho2, if_neg c10, if_neg c19]
        exact im_fin rfl rfl
  · try rw [ho2]
    obtain ⟨ej1, hj1⟩ := xat_some ho2 (Nat.lt_of_le_of_lt hsh.nk8 (by decide))
    have hk1 := hsh.K j1 hj1
    show W _ _ _ _ _ _ _ _ _ _ _ _ _ _ _ (F0 m 5 ls [.ref (g (xK j1))])
    refine lv_astore_n (lv' := [(3, .ref (g (xK j1))), (0, .ref (g xX)), (1, .int a), (2, .int b)]) hx hb dX5_used_5 rfl hl (by decide) rfl (fun ls hl => ?_)
    refine lv_iload_n hx hb dX5_used_6 rfl (lv_at hl 2 rfl) ?_
    refine kcX5_isPage (As := [.int a]) (rest := []) wm5_61 (cxf_isPage l D cA a) hx hb hml ht hown hK hw rfl hl.1 rfl (by simp [Value.category]) ⟨by decide, by decide⟩ ⟨by simp, by simp⟩ dX5_used_7 (fun v S1 g1 I1 R1 H locs hp hw => ?_)
    obtain ⟨rfl, h1, h2, h3, h4⟩ := hp
    rw [h1, h2, h3, h4] at hw
    clear h1 h2 h3 h4
    show W _ _ _ _ _ _ _ _ _ _ _ _ _ _ _ (F0 m 10 ls [.int (xf_isPage J a)])
    refine lv_if_eq (tgt := 22) hx hb dX5_used_10 (by decide) (fun c10 => ?_) (fun c10 => ?_)
    · refine lv_iconst (v := (-1)) hx hb dX5_used_22 (by decide) ?_
      refine nh_iret hx hb hr rfl hlocks hw (Nat.zero_le _) (Nat.zero_le _) dX5_used_23 ?_
      simp only [xf_used, ho2, if_pos c10]
      exact im_fin rfl rfl
    · refine lv_aload_n hx hb dX5_used_13 rfl (lv_at hl 0 rfl) ?_
      refine lv_ifnonnull (tgt := 24) hx hb dX5_used_14 (by decide) ?_
      refine lv_aload_n hx hb dX5_used_24 rfl (lv_at hl 0 rfl) ?_
      refine lv_ifnull hx hb dX5_used_25 ?_
      refine lv_aload_n hx hb dX5_used_28 rfl (lv_at hl 0 rfl) ?_
      refine fg1 hx hb ht hown hK hw hk1.1 rfl 3 wf5_146 (by decide) (nh_vr rfl hk1.2.1) dX5_used_29 ?_
      refine lv_iload_n hx hb dX5_used_32 rfl (lv_at hl 2 rfl) ?_
      refine ai_ld hx hb hK hw hk1.2.2.1 rfl (xi_v c10) dX5_used_33 ?_
      refine nh_iret hx hb hr rfl hlocks hw (Nat.zero_le _) (Nat.zero_le _) dX5_used_34 ?_
      simp only [xf_used, ho2, if_neg c10]
      exact im_fin rfl rfl
def xf_mark (J : (nh_N → Nat → Int32)) (nk : Nat) (a : Int32) (b : Int32) (d : Int32) : Int32 × (nh_N → Nat → Int32) := (match xat nk a with | none => ((-1), J) | some j1 => (if (xf_isPage J d) = 0 then ((-2), J) else (if (xf_isClosed J d) = 0 then (if (J xX 7) < 300 then (((xf_addMark J j1 d b).2 xX 7) + 1, (iu (xf_addMark J j1 d b).2 xX 7 (((xf_addMark J j1 d b).2 xX 7) + 1))) else ((-4), J)) else ((-3), J))))
set_option maxHeartbeats 4000000 in
set_option maxRecDepth 100000 in
theorem cxf_mark (l : Launch) (D : va_G) (cA : Nat → ClassId) {S : nh_N → Option nh_C} {g : nh_N → Nat} {J : (nh_N → Nat → Int32)} {R : nh_N → Nat → Option nh_N}  {nk ni nc : Nat} {kd pl pn : Nat → Nat} {ow : Nat → Nat → Nat} (hsh : xSh S R nk ni nc kd pl pn ow) (a : Int32) (b : Int32) (d : Int32)  : im_M l D cA yX5_mark vX5_mark 2 43 0 0 [.ref (g xX), .int a, .int b, .int d] S g J R (im_eq (some (.int (xf_mark J nk a b d).1)) S g (xf_mark J nk a b d).2 R) := by
  refine nh_of (cc := cX5_mark) (maxL := 5) (ret := (some .int)) (by decide) rfl (Nat.le_of_ble_eq_true rfl) ?_
  intro p e s m below meth c A ls hx hb hr hml hts hown hlocks hin hK hw hl
  have ht : ∀ w ∈ im_ws, w.before _ s = true := fun w h => hts w (List.mem_cons_of_mem _ h)
  have hl : lv_has ls 5 [(0, .ref (g xX)), (1, .int a), (2, .int b), (3, .int d)] := hl
  have hX := hsh.X
  refine lv_aload_n hx hb dX5_mark_0 rfl (lv_at hl 0 rfl) ?_
  refine lv_iload_n hx hb dX5_mark_1 rfl (lv_at hl 1 rfl) ?_
  refine kcX5_kindAt (As := [.int a]) (rest := []) wm5_57 (cxf_kindAt l D cA hX a nk hsh.nk8 hsh.KA) hx hb hml ht hown hK hw hX.1 rfl rfl hl.1 rfl (by simp [Value.category]) ⟨by decide, by decide⟩ ⟨by simp, by simp⟩ dX5_mark_2 (fun v S1 g1 I1 R1 H locs hp hw => ?_)
  obtain ⟨rfl, h1, h2, h3, h4⟩ := hp
  rw [h1, h2, h3, h4] at hw
  clear h1 h2 h3 h4
  rcases ho2 : xat nk a with _ | j1
  · try rw [ho2]
    show W _ _ _ _ _ _ _ _ _ _ _ _ _ _ _ (F0 m 5 ls [.null])
    refine lv_astoreN (lv' := [(4, .null), (0, .ref (g xX)), (1, .int a), (2, .int b), (3, .int d)]) hx hb dX5_mark_5 hl (by decide) rfl (fun ls hl => ?_)
    refine lv_aloadN hx hb dX5_mark_7 (lv_at hl 0 rfl) ?_
    refine lv_ifnonnullN hx hb dX5_mark_9 ?_
    refine lv_iconst (v := (-1)) hx hb dX5_mark_12 (by decide) ?_
    refine nh_iret hx hb hr rfl hlocks hw (Nat.zero_le _) (Nat.zero_le _) dX5_mark_13 ?_
    simp only [xf_mark, ho2]
    exact im_fin rfl rfl
  · try rw [ho2]
    obtain ⟨ej1, hj1⟩ := xat_some ho2 (Nat.lt_of_le_of_lt hsh.nk8 (by decide))
    have hk1 := hsh.K j1 hj1
    show W _ _ _ _ _ _ _ _ _ _ _ _ _ _ _ (F0 m 5 ls [.ref (g (xK j1))])
    refine lv_astore (lv' := [(4, .ref (g (xK j1))), (0, .ref (g xX)), (1, .int a), (2, .int b), (3, .int d)]) hx hb dX5_mark_5 hl (by decide) rfl (fun ls hl => ?_)
    refine lv_aload hx hb dX5_mark_7 (lv_at hl 0 rfl) ?_
    refine lv_ifnonnull (tgt := 14) hx hb dX5_mark_9 (by decide) ?_
    refine lv_iload_n hx hb dX5_mark_14 rfl (lv_at hl 4 rfl) ?_
    refine kcX5_isPage (As := [.int d]) (rest := []) wm5_61 (cxf_isPage l D cA d) hx hb hml ht hown hK hw rfl hl.1 rfl (by simp [Value.category]) ⟨by decide, by decide⟩ ⟨by simp, by simp⟩ dX5_mark_15 (fun v S1 g1 I1 R1 H locs hp hw => ?_)
    obtain ⟨rfl, h1, h2, h3, h4⟩ := hp
    rw [h1, h2, h3, h4] at hw
    clear h1 h2 h3 h4
    show W _ _ _ _ _ _ _ _ _ _ _ _ _ _ _ (F0 m 18 ls [.int (xf_isPage J d)])
    refine lv_if_ne (tgt := 24) hx hb dX5_mark_18 (by decide) (fun c18 => ?_) (fun c18 => ?_)
    · refine lv_aload_n hx hb dX5_mark_24 rfl (lv_at hl 1 rfl) ?_
      refine lv_iload_n hx hb dX5_mark_25 rfl (lv_at hl 4 rfl) ?_
      refine kcX5_isClosed (As := [.int d]) (rest := []) wm5_65 (cxf_isClosed l D cA hX d) hx hb hml ht hown hK hw hX.1 rfl rfl hl.1 rfl (by simp [Value.category]) ⟨by decide, by decide⟩ ⟨by simp, by simp⟩ dX5_mark_26 (fun v S1 g1 I1 R1 H locs hp hw => ?_)
      obtain ⟨rfl, h1, h2, h3, h4⟩ := hp
      rw [h1, h2, h3, h4] at hw
      clear h1 h2 h3 h4
      show W _ _ _ _ _ _ _ _ _ _ _ _ _ _ _ (F0 m 29 ls [.int (xf_isClosed J d)])
      refine lv_if_eq (tgt := 35) hx hb dX5_mark_29 (by decide) (fun c29 => ?_) (fun c29 => ?_)
      · refine lv_aload_n hx hb dX5_mark_35 rfl (lv_at hl 1 rfl) ?_
        refine fg5 (v := .int (J xX 7)) hx hb ht hown hK hw hX.1 rfl 7 wf5_74 (by decide) (nh_vi rfl) dX5_mark_36 ?_
        refine lv_sipush (v := 300) hx hb dX5_mark_39 (by decide) ?_
        refine lv_icmp_lt (tgt := 48) hx hb dX5_mark_42 (by decide) (fun c42 => ?_) (fun c42 => ?_)
        · refine lv_aload hx hb dX5_mark_48 (lv_at hl 0 rfl) ?_
          refine lv_iload_n hx hb dX5_mark_50 rfl (lv_at hl 4 rfl) ?_
          refine lv_iload_n hx hb dX5_mark_51 rfl (lv_at hl 3 rfl) ?_
          refine kcX1_addMark (As := [.int d, .int b]) (rest := []) wm5_77 (cxf_addMark l D cA j1 hk1 d b (xi_v c18)) hx hb hml ht hown hK hw hk1.1 rfl rfl hl.1 rfl (by simp [Value.category]) ⟨by decide, by decide⟩ ⟨by simp, by simp⟩ dX5_mark_52 (fun v S1 g1 J1 R1 H locs hp hw => ?_)
          obtain ⟨rfl, h1, h2, eJ1, h4⟩ := hp
          rw [h1, h2, h4] at hw
          clear h1 h2 h4
          show W _ _ _ _ _ _ _ _ _ _ _ _ _ _ _ (F0 m 55 ls [])
          refine lv_aload_n hx hb dX5_mark_55 rfl (lv_at hl 1 rfl) ?_
          refine lv_dup hx hb dX5_mark_56 rfl ?_
          refine fg5 (v := .int (J1 xX 7)) hx hb ht hown hK hw hX.1 rfl 7 wf5_74 (by decide) (nh_vi rfl) dX5_mark_57 ?_
          refine lv_iconst (v := 1) hx hb dX5_mark_60 (by decide) ?_
          refine lv_iadd hx hb dX5_mark_61 ?_
          refine fp5 hx hb ht hown hK hw hX.1 rfl 7 wf5_74 (by decide) rfl rfl rfl rfl dX5_mark_62 (fun H locs J2 eJ2 hw => ?_)
          refine lv_aload_n hx hb dX5_mark_65 rfl (lv_at hl 1 rfl) ?_
          refine fg5 (v := .int ((J1 xX 7) + 1)) hx hb ht hown hK hw hX.1 rfl 7 wf5_74 (by decide) (by simp [nh_v, im_sk, iu_e, xX, xKA, xIA, xPA, xLN, xLR, xK, xSO, xHM, xFT, xLT, xN, xP, xPP, xQ, eJ2]) dX5_mark_66 ?_
          refine nh_iret hx hb hr rfl hlocks hw (Nat.zero_le _) (Nat.zero_le _) dX5_mark_69 ?_
          subst eJ2
          subst eJ1
          simp only [xf_mark, ho2, if_neg c18, if_pos c29, if_pos c42]
          exact im_fin rfl rfl
        · refine lv_bipush (v := (-4)) hx hb dX5_mark_45 (by decide) ?_
          refine nh_iret hx hb hr rfl hlocks hw (Nat.zero_le _) (Nat.zero_le _) dX5_mark_47 ?_
          simp only [xf_mark, ho2, if_neg c18, if_pos c29, if_neg c42]
          exact im_fin rfl rfl
      · refine lv_bipush (v := (-3)) hx hb dX5_mark_32 (by decide) ?_
        refine nh_iret hx hb hr rfl hlocks hw (Nat.zero_le _) (Nat.zero_le _) dX5_mark_34 ?_
        simp only [xf_mark, ho2, if_neg c18, if_neg c29]
        exact im_fin rfl rfl
    · refine lv_bipush (v := (-2)) hx hb dX5_mark_21 (by decide) ?_
      refine nh_iret hx hb hr rfl hlocks hw (Nat.zero_le _) (Nat.zero_le _) dX5_mark_23 ?_
      simp only [xf_mark, ho2, if_pos c18]
      exact im_fin rfl rfl
def xf_cancel (J : (nh_N → Nat → Int32)) (ni ln : Nat) (kd : Nat → Nat) (a : Int32) : Int32 × (nh_N → Nat → Int32) := (match xat ni a with | none => ((-1), J) | some i1 => (if 0 < (J (xN i1) 7) then ((-3), J) else (if (xf_isTakenBack J i1 (kd i1)) = 0 then (1, (xf_takeOut (iu J (xN i1) 3 0) ln a)) else ((-3), J))))
set_option maxHeartbeats 4000000 in
set_option maxRecDepth 100000 in
theorem cxf_cancel (l : Launch) (D : va_G) (cA : Nat → ClassId) {S : nh_N → Option nh_C} {g : nh_N → Nat} {J : (nh_N → Nat → Int32)} {R : nh_N → Nat → Option nh_N}  {nk ni nc : Nat} {kd pl pn : Nat → Nat} {ow : Nat → Nat → Nat} (hsh : xSh S R nk ni nc kd pl pn ow) (a : Int32) (ln : Nat) (hln : J xLN 1 = nI ln) (hl2 : ln ≤ 200) : im_M l D cA yX5_cancel vX5_cancel 2 43 0 0 [.ref (g xX), .int a] S g J R (im_eq (some (.int (xf_cancel J ni ln kd a).1)) S g (xf_cancel J ni ln kd a).2 R) := by
  refine nh_of (cc := cX5_cancel) (maxL := 3) (ret := (some .int)) (by decide) rfl (Nat.le_of_ble_eq_true rfl) ?_
  intro p e s m below meth c A ls hx hb hr hml hts hown hlocks hin hK hw hl
  have ht : ∀ w ∈ im_ws, w.before _ s = true := fun w h => hts w (List.mem_cons_of_mem _ h)
  have hl : lv_has ls 3 [(0, .ref (g xX)), (1, .int a)] := hl
  have hX := hsh.X
  refine lv_aload_n hx hb dX5_cancel_0 rfl (lv_at hl 0 rfl) ?_
  refine lv_iload_n hx hb dX5_cancel_1 rfl (lv_at hl 1 rfl) ?_
  refine kcX5_insertAt (As := [.int a]) (rest := []) wm5_91 (cxf_insertAt l D cA hX a ni hsh.ni2 hsh.IA) hx hb hml ht hown hK hw hX.1 rfl rfl hl.1 rfl (by simp [Value.category]) ⟨by decide, by decide⟩ ⟨by simp, by simp⟩ dX5_cancel_2 (fun v S1 g1 I1 R1 H locs hp hw => ?_)
  obtain ⟨rfl, h1, h2, h3, h4⟩ := hp
  rw [h1, h2, h3, h4] at hw
  clear h1 h2 h3 h4
  rcases ho2 : xat ni a with _ | i1
  · try rw [ho2]
    show W _ _ _ _ _ _ _ _ _ _ _ _ _ _ _ (F0 m 5 ls [.null])
    refine lv_astore_nN (lv' := [(2, .null), (0, .ref (g xX)), (1, .int a)]) hx hb dX5_cancel_5 rfl hl (by decide) rfl (fun ls hl => ?_)
    refine lv_aload_nN hx hb dX5_cancel_6 rfl (lv_at hl 0 rfl) ?_
    refine lv_ifnonnullN hx hb dX5_cancel_7 ?_
    refine lv_iconst (v := (-1)) hx hb dX5_cancel_10 (by decide) ?_
    refine nh_iret hx hb hr rfl hlocks hw (Nat.zero_le _) (Nat.zero_le _) dX5_cancel_11 ?_
    simp only [xf_cancel, ho2]
    exact im_fin rfl rfl
  · try rw [ho2]
    obtain ⟨ei1, hi1⟩ := xat_some ho2 (Nat.lt_of_le_of_lt hsh.ni2 (by decide))
    have hn1 := hsh.N i1 hi1
    show W _ _ _ _ _ _ _ _ _ _ _ _ _ _ _ (F0 m 5 ls [.ref (g (xN i1))])
    refine lv_astore_n (lv' := [(2, .ref (g (xN i1))), (0, .ref (g xX)), (1, .int a)]) hx hb dX5_cancel_5 rfl hl (by decide) rfl (fun ls hl => ?_)
    refine lv_aload_n hx hb dX5_cancel_6 rfl (lv_at hl 0 rfl) ?_
    refine lv_ifnonnull (tgt := 12) hx hb dX5_cancel_7 (by decide) ?_
    refine lv_aload_n hx hb dX5_cancel_12 rfl (lv_at hl 0 rfl) ?_
    refine fg0 (v := .int (J (xN i1) 7)) hx hb ht hown hK hw hn1.1.1 rfl 7 wf5_95 (by decide) (nh_vi rfl) dX5_cancel_13 ?_
    refine lv_if_gt (tgt := 26) hx hb dX5_cancel_16 (by decide) (fun c16 => ?_) (fun c16 => ?_)
    · refine lv_bipush (v := (-3)) hx hb dX5_cancel_26 (by decide) ?_
      refine nh_iret hx hb hr rfl hlocks hw (Nat.zero_le _) (Nat.zero_le _) dX5_cancel_28 ?_
      simp only [xf_cancel, ho2, if_pos c16]
      exact im_fin rfl rfl
    · refine lv_aload_n hx hb dX5_cancel_19 rfl (lv_at hl 0 rfl) ?_
      refine kcX0_isTakenBack (As := []) (rest := []) wm5_98 (cxf_isTakenBack l D cA i1 (kd i1) hn1.1) hx hb hml ht hown hK hw hn1.1.1 rfl rfl hl.1 rfl (by simp [Value.category]) ⟨by decide, by decide⟩ ⟨by simp, by simp⟩ dX5_cancel_20 (fun v S1 g1 I1 R1 H locs hp hw => ?_)
      obtain ⟨rfl, h1, h2, h3, h4⟩ := hp
      rw [h1, h2, h3, h4] at hw
      clear h1 h2 h3 h4
      show W _ _ _ _ _ _ _ _ _ _ _ _ _ _ _ (F0 m 23 ls [.int (xf_isTakenBack J i1 (kd i1))])
      refine lv_if_eq (tgt := 29) hx hb dX5_cancel_23 (by decide) (fun c23 => ?_) (fun c23 => ?_)
      · refine lv_aload_n hx hb dX5_cancel_29 rfl (lv_at hl 0 rfl) ?_
        refine lv_iconst (v := 0) hx hb dX5_cancel_30 (by decide) ?_
        refine fp0 hx hb ht hown hK hw hn1.1.1 rfl 3 wf5_102 (by decide) rfl rfl rfl rfl dX5_cancel_31 (fun H locs J1 eJ1 hw => ?_)
        refine lv_aload_n hx hb dX5_cancel_34 rfl (lv_at hl 1 rfl) ?_
        refine fg5 hx hb ht hown hK hw hX.1 rfl 4 wf5_30 (by decide) (nh_vr rfl hX.2.2.2.2.2.2.2.1) dX5_cancel_35 ?_
        refine lv_iload_n hx hb dX5_cancel_38 rfl (lv_at hl 2 rfl) ?_
        refine kcX2_takeOut (As := [.int a]) (rest := []) wm5_105 (cxg_takeOut l D cA hX.2.2.2.2.2.2.2.2 a ln (by simp [iu_e, xN, xLN, eJ1, hln]) hl2) hx hb hml ht hown hK hw hX.2.2.2.2.2.2.2.2.1 rfl rfl hl.1 rfl (by simp [Value.category]) ⟨by decide, by decide⟩ ⟨by simp, by simp⟩ dX5_cancel_39 (fun v S1 g1 J2 R1 H locs hp hw => ?_)
        obtain ⟨rfl, h1, h2, eJ2, h4⟩ := hp
        rw [h1, h2, h4] at hw
        clear h1 h2 h4
        show W _ _ _ _ _ _ _ _ _ _ _ _ _ _ _ (F0 m 42 ls [])
        refine lv_iconst (v := 1) hx hb dX5_cancel_42 (by decide) ?_
        refine nh_iret hx hb hr rfl hlocks hw (Nat.zero_le _) (Nat.zero_le _) dX5_cancel_43 ?_
        subst eJ2
        subst eJ1
        simp only [xf_cancel, ho2, if_neg c16, if_pos c23]
        exact im_fin rfl rfl
      · refine lv_bipush (v := (-3)) hx hb dX5_cancel_26 (by decide) ?_
        refine nh_iret hx hb hr rfl hlocks hw (Nat.zero_le _) (Nat.zero_le _) dX5_cancel_28 ?_
        simp only [xf_cancel, ho2, if_neg c16, if_neg c23]
        exact im_fin rfl rfl
def xf_freeOn (J : (nh_N → Nat → Int32)) (q k : Nat)  : Int32 := (if 0 < (if ((J xX 0) - (J (xP q) 3)) < ((J (xK k) 0) - (J (xSO k) (J (xP q) 0).toNatClampNeg)) then ((J xX 0) - (J (xP q) 3)) else ((J (xK k) 0) - (J (xSO k) (J (xP q) 0).toNatClampNeg))) then (if ((J xX 0) - (J (xP q) 3)) < ((J (xK k) 0) - (J (xSO k) (J (xP q) 0).toNatClampNeg)) then ((J xX 0) - (J (xP q) 3)) else ((J (xK k) 0) - (J (xSO k) (J (xP q) 0).toNatClampNeg))) else 0)
set_option maxHeartbeats 4000000 in
set_option maxRecDepth 100000 in
theorem cxf_freeOn (l : Launch) (D : va_G) (cA : Nat → ClassId) {S : nh_N → Option nh_C} {g : nh_N → Nat} {J : (nh_N → Nat → Int32)} {R : nh_N → Nat → Option nh_N} (q k : Nat) {n : Nat} (hX : xXs S R) (hp0 : xPs S R q n) (hk : xKs S R k)  (hq0 : J (xP q) 0 = nI q) (hq4 : q < 40) : im_M l D cA yX5_freeOn vX5_freeOn 1 20 0 0 [.ref (g xX), .ref (g (xP q)), .ref (g (xK k))] S g J R (im_eq (some (.int (xf_freeOn J q k))) S g J R) := by
  refine nh_of (cc := cX5_freeOn) (maxL := 5) (ret := (some .int)) (by decide) rfl (Nat.le_of_ble_eq_true rfl) ?_
  intro p e s m below meth c A ls hx hb hr hml hts hown hlocks hin hK hw hl
  have ht : ∀ w ∈ im_ws, w.before _ s = true := fun w h => hts w (List.mem_cons_of_mem _ h)
  have hl : lv_has ls 5 [(0, .ref (g xX)), (1, .ref (g (xP q))), (2, .ref (g (xK k)))] := hl
  refine lv_aload_n hx hb dX5_freeOn_0 rfl (lv_at hl 2 rfl) ?_
  refine fg1 (v := .int (J (xK k) 0)) hx hb ht hown hK hw hk.1 rfl 0 wf5_208 (by decide) (nh_vi rfl) dX5_freeOn_1 ?_
  refine lv_aload_n hx hb dX5_freeOn_4 rfl (lv_at hl 2 rfl) ?_
  refine fg1 hx hb ht hown hK hw hk.1 rfl 3 wf5_146 (by decide) (nh_vr rfl hk.2.1) dX5_freeOn_5 ?_
  refine lv_aload_n hx hb dX5_freeOn_8 rfl (lv_at hl 1 rfl) ?_
  refine fg3 (v := .int (J (xP q) 0)) hx hb ht hown hK hw hp0.1 rfl 0 wf5_211 (by decide) (nh_vi rfl) dX5_freeOn_9 ?_
  refine ai_ld hx hb hK hw hk.2.2.1 rfl (ix_of q hq0 hq4 (by decide)) dX5_freeOn_12 ?_
  refine lv_isub hx hb dX5_freeOn_13 ?_
  refine lv_istore_n (lv' := [(3, .int ((J (xK k) 0) - (J (xSO k) (J (xP q) 0).toNatClampNeg))), (0, .ref (g xX)), (1, .ref (g (xP q))), (2, .ref (g (xK k)))]) hx hb dX5_freeOn_14 rfl hl (by decide) rfl (fun ls hl => ?_)
  refine lv_aload_n hx hb dX5_freeOn_15 rfl (lv_at hl 1 rfl) ?_
  refine fg5 (v := .int (J xX 0)) hx hb ht hown hK hw hX.1 rfl 0 wf5_43 (by decide) (nh_vi rfl) dX5_freeOn_16 ?_
  refine lv_aload_n hx hb dX5_freeOn_19 rfl (lv_at hl 2 rfl) ?_
  refine fg3 (v := .int (J (xP q) 3)) hx hb ht hown hK hw hp0.1 rfl 3 wf5_150 (by decide) (nh_vi rfl) dX5_freeOn_20 ?_
  refine lv_isub hx hb dX5_freeOn_23 ?_
  refine lv_istore (lv' := [(4, .int ((J xX 0) - (J (xP q) 3))), (3, .int ((J (xK k) 0) - (J (xSO k) (J (xP q) 0).toNatClampNeg))), (0, .ref (g xX)), (1, .ref (g (xP q))), (2, .ref (g (xK k)))]) hx hb dX5_freeOn_24 hl (by decide) rfl (fun ls hl => ?_)
  refine lv_iconst (v := 0) hx hb dX5_freeOn_26 (by decide) ?_
  refine lv_iload_n hx hb dX5_freeOn_27 rfl (lv_at hl 1 rfl) ?_
  refine lv_iload hx hb dX5_freeOn_28 (lv_at hl 0 rfl) ?_
  refine im_min hx hb (by rw [hml]; exact hl.1.symm) ht hown wm5_34 (by decide) (by simp [Value.category]) (by simp) (by simp) dX5_freeOn_30 ?_
  refine im_max hx hb (by rw [hml]; exact hl.1.symm) ht hown wm5_40 (by decide) (by simp [Value.category]) (by simp) (by simp) dX5_freeOn_33 ?_
  refine nh_iret hx hb hr rfl hlocks hw (Nat.zero_le _) (Nat.zero_le _) dX5_freeOn_36 ?_
  exact im_fin rfl rfl
end
section
/-! METHODS THAT MAKE CELLS -/
theorem nu_al {S : nh_N → Option nh_C} {m n : nh_N} {c : nh_C} {v : Option nh_C} (h : S m = some c) (hn : S n = none) : nu S n v m = some c := by
  rw [nu_n _ _ (fun q => by rw [q, hn] at h; cases h)]
  exact h
theorem nu_gl {α : Type} {S : nh_N → Option nh_C} {f : nh_N → α} {m n : nh_N} {c : nh_C} {v : α} (h : S m = some c) (hn : S n = none) : nu f n v m = f m := nu_n _ _ (fun q => by rw [q, hn] at h; cases h)
/-- what was there keeps its address -/
def xgk (S : nh_N → Option nh_C) (g g' : nh_N → Nat) : Prop := ∀ m c, S m = some c → g' m = g m
theorem xgk_rf (S : nh_N → Option nh_C) (g : nh_N → Nat) : xgk S g g := fun _ _ _ => rfl
theorem xgk_nu {S S0 : nh_N → Option nh_C} {g g0 : nh_N → Nat} {n : nh_N} {q : Nat} (h : xgk S0 g0 g) (hs : ∀ m c, S0 m = some c → S m = some c) (hn : S n = none) : xgk S0 g0 (nu g n q) := fun m c hm => (nu_gl (hs m c hm) hn).trans (h m c hm)
theorem nu_mono {S0 S : nh_N → Option nh_C} {n : nh_N} {v : Option nh_C} (hs : ∀ m c, S0 m = some c → S m = some c) (hn : S n = none) : ∀ m c, S0 m = some c → nu S n v m = some c := fun m c hm => nu_al (hs m c hm) hn
set_option maxHeartbeats 4000000 in
set_option maxRecDepth 100000 in
theorem cxn_Insert (l : Launch) (D : va_G) (cA : Nat → ClassId) {S : nh_N → Option nh_C} {g : nh_N → Nat} {J : (nh_N → Nat → Int32)} {R : nh_N → Nat → Option nh_N} (i k : Nat) (hn0 : S (xN i) = some (0, 0)) (hk0 : S (xK k) = some (0, 1)) (a : Int32) (b : Int32) (d : Int32)  : im_M l D cA yX0_init vX0_init 1 12 0 0 [.ref (g (xN i)), .int a, .ref (g (xK k)), .int b, .int d] S g J R (im_eq none S g (iu (iu (iu (iu (iu (iu J (xN i) 4 (-1)) (xN i) 5 (-1)) (xN i) 6 (-1)) (xN i) 0 a) (xN i) 2 d) (xN i) 3 b) (ru R (xN i) 1 (some (xK k)))) := by
  refine nh_of (cc := cX0_init) (maxL := 5) (ret := none) (by decide) rfl (Nat.le_of_ble_eq_true rfl) ?_
  intro p e s m below meth c A ls hx hb hr hml hts hown hlocks hin hK hw hl
  have ht : ∀ w ∈ im_ws, w.before _ s = true := fun w h => hts w (List.mem_cons_of_mem _ h)
  have hl : lv_has ls 5 [(0, .ref (g (xN i))), (1, .int a), (2, .ref (g (xK k))), (3, .int b), (4, .int d)] := hl
  refine lv_aload_n hx hb dX0_init_0 rfl (lv_at hl 0 rfl) ?_
  refine im_objInit hx hb ht hown wm0_3 (by rw [hml]; exact hl.1) (by first | decide | (simp; done) | (simp; omega) | omega) (by first | decide | (simp; done) | (simp; omega) | omega) dX0_init_1 ?_
  refine lv_aload_n hx hb dX0_init_4 rfl (lv_at hl 0 rfl) ?_
  refine lv_iconst (v := (-1)) hx hb dX0_init_5 (by decide) ?_
  refine fp0 hx hb ht hown hK hw hn0 rfl 4 wf0_9 (by decide) rfl rfl rfl rfl dX0_init_6 (fun H locs J1 eJ1 hw => ?_)
  refine lv_aload_n hx hb dX0_init_9 rfl (lv_at hl 0 rfl) ?_
  refine lv_iconst (v := (-1)) hx hb dX0_init_10 (by decide) ?_
  refine fp0 hx hb ht hown hK hw hn0 rfl 5 wf0_15 (by decide) rfl rfl rfl rfl dX0_init_11 (fun H locs J2 eJ2 hw => ?_)
  refine lv_aload_n hx hb dX0_init_14 rfl (lv_at hl 0 rfl) ?_
  refine lv_iconst (v := (-1)) hx hb dX0_init_15 (by decide) ?_
  refine fp0 hx hb ht hown hK hw hn0 rfl 6 wf0_18 (by decide) rfl rfl rfl rfl dX0_init_16 (fun H locs J3 eJ3 hw => ?_)
  refine lv_aload_n hx hb dX0_init_19 rfl (lv_at hl 0 rfl) ?_
  refine lv_iload_n hx hb dX0_init_20 rfl (lv_at hl 1 rfl) ?_
  refine fP0 hx hb ht hown hK hw hn0 rfl 0 wf0_21 (by decide) rfl hin rfl rfl rfl rfl dX0_init_21 (fun H locs J4 eJ4 hw => ?_)
  refine lv_aload_n hx hb dX0_init_24 rfl (lv_at hl 0 rfl) ?_
  refine lv_aload_n hx hb dX0_init_25 rfl (lv_at hl 2 rfl) ?_
  refine fQ0 hx hb ht hown hK hw hn0 rfl 1 wf0_24 (by decide) rfl hin rfl (some (xK k)) (fun m hm => ⟨_, by cases hm; exact hk0⟩) (by first | rfl | (simp only [Option.map_some, va_rf]; rw [show g (xK k) = g (xK k) from rfl])) rfl rfl rfl dX0_init_26 (fun H locs T1 eT1 hw => ?_)
  have u1_new : T1 (xN i) 1 = some (xK k) := by rw [eT1, ru_e]; simp
  refine lv_aload_n hx hb dX0_init_29 rfl (lv_at hl 0 rfl) ?_
  refine lv_iload hx hb dX0_init_30 (lv_at hl 4 rfl) ?_
  refine fP0 hx hb ht hown hK hw hn0 rfl 2 wf0_28 (by decide) rfl hin rfl rfl rfl rfl dX0_init_32 (fun H locs J5 eJ5 hw => ?_)
  refine lv_aload_n hx hb dX0_init_35 rfl (lv_at hl 0 rfl) ?_
  refine lv_iload_n hx hb dX0_init_36 rfl (lv_at hl 3 rfl) ?_
  refine fp0 hx hb ht hown hK hw hn0 rfl 3 wf0_31 (by decide) rfl rfl rfl rfl dX0_init_37 (fun H locs J6 eJ6 hw => ?_)
  refine nh_vret hx hb hr hlocks hw (by first | decide | (simp; done) | (simp; omega) | omega) (by first | decide | (simp; done) | (simp; omega) | omega) dX0_init_40 ?_
  subst eJ6
  subst eJ5
  subst eT1
  subst eJ4
  subst eJ3
  subst eJ2
  subst eJ1
  exact ⟨rfl, rfl, rfl, rfl, rfl⟩
set_option maxHeartbeats 4000000 in
set_option maxRecDepth 100000 in
theorem cxn_Part (l : Launch) (D : va_G) (cA : Nat → ClassId) {S : nh_N → Option nh_C} {g : nh_N → Nat} {J : (nh_N → Nat → Int32)} {R : nh_N → Nat → Option nh_N} (q j i : Nat) (hq0 : S (xQ q j) = some (0, 4)) (hn0 : S (xN i) = some (0, 0)) (a : Int32) (b : Int32) (hb0 : b = 0 ∨ b = 1) : im_M l D cA yX4_init vX4_init 1 12 0 0 [.ref (g (xQ q j)), .ref (g (xN i)), .int a, .int b] S g J R (im_eq none S g (iu (iu J (xQ q j) 1 a) (xQ q j) 2 b) (ru R (xQ q j) 0 (some (xN i)))) := by
  refine nh_of (cc := cX4_init) (maxL := 4) (ret := none) (by decide) rfl (Nat.le_of_ble_eq_true rfl) ?_
  intro p e s m below meth c A ls hx hb hr hml hts hown hlocks hin hK hw hl
  have ht : ∀ w ∈ im_ws, w.before _ s = true := fun w h => hts w (List.mem_cons_of_mem _ h)
  have hl : lv_has ls 4 [(0, .ref (g (xQ q j))), (1, .ref (g (xN i))), (2, .int a), (3, .int b)] := hl
  refine lv_aload_n hx hb dX4_init_0 rfl (lv_at hl 0 rfl) ?_
  refine im_objInit hx hb ht hown wm4_1 (by rw [hml]; exact hl.1) (by first | decide | (simp; done) | (simp; omega) | omega) (by first | decide | (simp; done) | (simp; omega) | omega) dX4_init_1 ?_
  refine lv_aload_n hx hb dX4_init_4 rfl (lv_at hl 0 rfl) ?_
  refine lv_aload_n hx hb dX4_init_5 rfl (lv_at hl 1 rfl) ?_
  refine fQ4 hx hb ht hown hK hw hq0 rfl 0 wf4_7 (by decide) rfl hin rfl (some (xN i)) (fun m hm => ⟨_, by cases hm; exact hn0⟩) (by first | rfl | (simp only [Option.map_some, va_rf]; rw [show g (xN i) = g (xN i) from rfl])) rfl rfl rfl dX4_init_6 (fun H locs T1 eT1 hw => ?_)
  have u1_new : T1 (xQ q j) 0 = some (xN i) := by rw [eT1, ru_e]; simp
  refine lv_aload_n hx hb dX4_init_9 rfl (lv_at hl 0 rfl) ?_
  refine lv_iload_n hx hb dX4_init_10 rfl (lv_at hl 2 rfl) ?_
  refine fP4 hx hb ht hown hK hw hq0 rfl 1 wf4_13 (by decide) rfl hin rfl rfl rfl rfl dX4_init_11 (fun H locs J1 eJ1 hw => ?_)
  refine lv_aload_n hx hb dX4_init_14 rfl (lv_at hl 0 rfl) ?_
  refine lv_iload_n hx hb dX4_init_15 rfl (lv_at hl 3 rfl) ?_
  refine fP4 hx hb ht hown hK hw hq0 rfl 2 wf4_17 (by decide) rfl hin rfl (nb_of hb0) (fb_of hb0) rfl dX4_init_16 (fun H locs J2 eJ2 hw => ?_)
  refine nh_vret hx hb hr hlocks hw (by first | decide | (simp; done) | (simp; omega) | omega) (by first | decide | (simp; done) | (simp; omega) | omega) dX4_init_19 ?_
  subst eJ2
  subst eJ1
  subst eT1
  exact ⟨rfl, rfl, rfl, rfl, rfl⟩
set_option maxHeartbeats 4000000 in
set_option maxRecDepth 100000 in
theorem cxn_Line (l : Launch) (D : va_G) (cA : Nat → ClassId) {S : nh_N → Option nh_C} {g : nh_N → Nat} {J : (nh_N → Nat → Int32)} {R : nh_N → Nat → Option nh_N} (hl0 : S xLN = some (0, 2)) (hf : S xLR = none)   : im_M l D cA yX2_init vX2_init 1 12 1 200 [.ref (g xLN)] S g J R (fun v S' g' I' R' => v = none ∧ S' = nu S xLR (some (1, 200)) ∧ xgk S g g' ∧ I' = nu J xLR (fun _ => 0) ∧ R' = ru (nu R xLR (fun _ => none)) xLN 0 (some xLR)) := by
  refine nh_of (cc := cX2_init) (maxL := 1) (ret := none) (by decide) rfl (Nat.le_of_ble_eq_true rfl) ?_
  intro p e s m below meth c A ls hx hb hr hml hts hown hlocks hin hK hw hl
  have ht : ∀ w ∈ im_ws, w.before _ s = true := fun w h => hts w (List.mem_cons_of_mem _ h)
  have hl : lv_has ls 1 [(0, .ref (g xLN))] := hl
  refine lv_aload_n hx hb dX2_init_0 rfl (lv_at hl 0 rfl) ?_
  refine im_objInit hx hb ht hown wm2_3 (by rw [hml]; exact hl.1) (by first | decide | (simp; done) | (simp; omega) | omega) (by first | decide | (simp; done) | (simp; omega) | omega) dX2_init_1 ?_
  refine lv_aload_n hx hb dX2_init_4 rfl (lv_at hl 0 rfl) ?_
  refine lv_sipush (v := 200) hx hb dX2_init_5 (by decide) ?_
  refine ai_new xLR ht hx hb hK hw hf (by decide) (show _ = 200 from rfl) (by decide) (by first | decide | (simp; done) | (simp; omega) | omega) (by first | decide | (simp; done) | (simp; omega) | omega) dX2_init_8 (fun q1 H S1 g1 I1 R1 eS1 eg1 eI1 eR1 hw => ?_)
  have a1_xLN : S1 xLN = some (0, 2) := by rw [eS1]; exact nu_al hl0 hf
  have a1_xLNg : g1 xLN = g xLN := by rw [eg1]; exact (nu_gl hl0 hf).trans rfl
  have b1 : S1 xLR = some (1, 200) := by rw [eS1]; exact nu_s _ _ _
  have b1g : g1 xLR = q1 := by rw [eg1]; exact nu_s _ _ _
  refine fQ2 hx hb ht hown hK hw a1_xLN a1_xLNg 0 wf2_9 (by decide) rfl hin rfl (some xLR) (fun m hm => ⟨_, by cases hm; exact b1⟩) (by first | rfl | (simp only [Option.map_some, va_rf]; rw [show g1 xLR = q1 from b1g])) rfl rfl rfl dX2_init_10 (fun H locs T1 eT1 hw => ?_)
  have u1_new : T1 xLN 0 = some xLR := by rw [eT1, ru_e]; simp
  refine nh_vret hx hb hr hlocks hw (by first | decide | (simp; done) | (simp; omega) | omega) (by first | decide | (simp; done) | (simp; omega) | omega) dX2_init_13 ?_
  subst eT1
  subst eS1
  subst eg1
  subst eI1
  subst eR1
  exact ⟨rfl, rfl, xgk_nu (xgk_rf S g) (fun _ _ h => h) hf, rfl, rfl⟩
def xS_kind (S : nh_N → Option nh_C) (k : Nat) : nh_N → Option nh_C := nu (nu (nu (nu S (xSO k) (some (1, 40))) (xHM k) (some (2, 40))) (xFT k) (some (1, 40))) (xLT k) (some (1, 40))
def xI_kind (J : nh_N → Nat → Int32) (k : Nat) (a b d : Int32) : nh_N → Nat → Int32 := iu (iu (iu (nu (nu (nu (nu J (xSO k) (fun _ => 0)) (xHM k) (fun _ => 0)) (xFT k) (fun _ => 0)) (xLT k) (fun _ => 0)) (xK k) 0 a) (xK k) 1 b) (xK k) 2 d
def xR_kind (R : nh_N → Nat → Option nh_N) (k : Nat) : nh_N → Nat → Option nh_N := ru (nu (ru (nu (ru (nu (ru (nu R (xSO k) (fun _ => none)) (xK k) 3 (some (xSO k))) (xHM k) (fun _ => none)) (xK k) 4 (some (xHM k))) (xFT k) (fun _ => none)) (xK k) 5 (some (xFT k))) (xLT k) (fun _ => none)) (xK k) 6 (some (xLT k))
set_option maxHeartbeats 4000000 in
set_option maxRecDepth 100000 in
theorem cxn_Kind (l : Launch) (D : va_G) (cA : Nat → ClassId) {S : nh_N → Option nh_C} {g : nh_N → Nat} {J : (nh_N → Nat → Int32)} {R : nh_N → Nat → Option nh_N} (k : Nat) (hk0 : S (xK k) = some (0, 1)) (hf1 : S (xSO k) = none) (hf2 : S (xHM k) = none) (hf3 : S (xFT k) = none) (hf4 : S (xLT k) = none) (a : Int32) (b : Int32) (d : Int32) (hd0 : d = 0 ∨ d = 1) : im_M l D cA yX1_init vX1_init 1 12 4 160 [.ref (g (xK k)), .int a, .int b, .int d] S g J R (fun v S' g' I' R' => v = none ∧ S' = xS_kind S k ∧ xgk S g g' ∧ I' = xI_kind J k a b d ∧ R' = xR_kind R k) := by
  refine nh_of (cc := cX1_init) (maxL := 4) (ret := none) (by decide) rfl (Nat.le_of_ble_eq_true rfl) ?_
  intro p e s m below meth c A ls hx hb hr hml hts hown hlocks hin hK hw hl
  have ht : ∀ w ∈ im_ws, w.before _ s = true := fun w h => hts w (List.mem_cons_of_mem _ h)
  have hl : lv_has ls 4 [(0, .ref (g (xK k))), (1, .int a), (2, .int b), (3, .int d)] := hl
  refine lv_aload_n hx hb dX1_init_0 rfl (lv_at hl 0 rfl) ?_
  refine im_objInit hx hb ht hown wm1_3 (by rw [hml]; exact hl.1) (by first | decide | (simp; done) | (simp; omega) | omega) (by first | decide | (simp; done) | (simp; omega) | omega) dX1_init_1 ?_
  refine lv_aload_n hx hb dX1_init_4 rfl (lv_at hl 0 rfl) ?_
  refine lv_bipush (v := 40) hx hb dX1_init_5 (by decide) ?_
  refine ai_new (xSO k) ht hx hb hK hw hf1 (by decide) (show _ = 40 from rfl) (by decide) (by first | decide | (simp; done) | (simp; omega) | omega) (by first | decide | (simp; done) | (simp; omega) | omega) dX1_init_7 (fun q1 H S1 g1 I1 R1 eS1 eg1 eI1 eR1 hw => ?_)
  have a1_xK_k : S1 (xK k) = some (0, 1) := by rw [eS1]; exact nu_al hk0 hf1
  have a1_xK_kg : g1 (xK k) = g (xK k) := by rw [eg1]; exact (nu_gl hk0 hf1).trans rfl
  have b1 : S1 (xSO k) = some (1, 40) := by rw [eS1]; exact nu_s _ _ _
  have b1g : g1 (xSO k) = q1 := by rw [eg1]; exact nu_s _ _ _
  refine fQ1 hx hb ht hown hK hw a1_xK_k a1_xK_kg 3 wf1_9 (by decide) rfl hin rfl (some (xSO k)) (fun m hm => ⟨_, by cases hm; exact b1⟩) (by first | rfl | (simp only [Option.map_some, va_rf]; rw [show g1 (xSO k) = q1 from b1g])) rfl rfl rfl dX1_init_9 (fun H locs T1 eT1 hw => ?_)
  have u1_new : T1 (xK k) 3 = some (xSO k) := by rw [eT1, ru_e]; simp
  refine lv_aload_n hx hb dX1_init_12 rfl (lv_at hl 0 rfl) ?_
  refine lv_bipush (v := 40) hx hb dX1_init_13 (by decide) ?_
  refine az_new (xHM k) ht hx hb hK hw (by rw [eS1, nu_n _ _ (by simp [xX, xKA, xIA, xPA, xLN, xLR, xK, xSO, xHM, xFT, xLT, xN, xP, xPP, xQ])]; exact hf2) (by decide) (show _ = 40 from rfl) (by decide) (by first | decide | (simp; done) | (simp; omega) | omega) (by first | decide | (simp; done) | (simp; omega) | omega) dX1_init_15 (fun q2 H S2 g2 I2 R2 eS2 eg2 eI2 eR2 hw => ?_)
  have a2_xK_k : S2 (xK k) = some (0, 1) := by rw [eS2]; exact nu_al a1_xK_k (by rw [eS1, nu_n _ _ (by simp [xX, xKA, xIA, xPA, xLN, xLR, xK, xSO, xHM, xFT, xLT, xN, xP, xPP, xQ])]; exact hf2)
  have a2_xK_kg : g2 (xK k) = g (xK k) := by rw [eg2]; exact (nu_gl a1_xK_k (by rw [eS1, nu_n _ _ (by simp [xX, xKA, xIA, xPA, xLN, xLR, xK, xSO, xHM, xFT, xLT, xN, xP, xPP, xQ])]; exact hf2)).trans a1_xK_kg
  have a2_xK_kr3 : R2 (xK k) 3 = some (xSO k) := by rw [eR2, nu_gl a1_xK_k (by rw [eS1, nu_n _ _ (by simp [xX, xKA, xIA, xPA, xLN, xLR, xK, xSO, xHM, xFT, xLT, xN, xP, xPP, xQ])]; exact hf2)]; exact u1_new
  have a2_xSO_k : S2 (xSO k) = some (1, 40) := by rw [eS2]; exact nu_al b1 (by rw [eS1, nu_n _ _ (by simp [xX, xKA, xIA, xPA, xLN, xLR, xK, xSO, xHM, xFT, xLT, xN, xP, xPP, xQ])]; exact hf2)
  have a2_xSO_kg : g2 (xSO k) = q1 := by rw [eg2]; exact (nu_gl b1 (by rw [eS1, nu_n _ _ (by simp [xX, xKA, xIA, xPA, xLN, xLR, xK, xSO, xHM, xFT, xLT, xN, xP, xPP, xQ])]; exact hf2)).trans b1g
  have b2 : S2 (xHM k) = some (2, 40) := by rw [eS2]; exact nu_s _ _ _
  have b2g : g2 (xHM k) = q2 := by rw [eg2]; exact nu_s _ _ _
  refine fQ1 hx hb ht hown hK hw a2_xK_k a2_xK_kg 4 wf1_15 (by decide) rfl hin rfl (some (xHM k)) (fun m hm => ⟨_, by cases hm; exact b2⟩) (by first | rfl | (simp only [Option.map_some, va_rf]; rw [show g2 (xHM k) = q2 from b2g])) rfl rfl rfl dX1_init_17 (fun H locs T2 eT2 hw => ?_)
  have u2_xK_k_3 : T2 (xK k) 3 = some (xSO k) := by rw [eT2, ru_e, if_neg (by simp [xX, xKA, xIA, xPA, xLN, xLR, xK, xSO, xHM, xFT, xLT, xN, xP, xPP, xQ])]; exact a2_xK_kr3
  have u2_new : T2 (xK k) 4 = some (xHM k) := by rw [eT2, ru_e]; simp
  refine lv_aload_n hx hb dX1_init_20 rfl (lv_at hl 0 rfl) ?_
  refine lv_bipush (v := 40) hx hb dX1_init_21 (by decide) ?_
  refine ai_new (xFT k) ht hx hb hK hw (by rw [eS2, nu_n _ _ (by simp [xX, xKA, xIA, xPA, xLN, xLR, xK, xSO, xHM, xFT, xLT, xN, xP, xPP, xQ]), eS1, nu_n _ _ (by simp [xX, xKA, xIA, xPA, xLN, xLR, xK, xSO, xHM, xFT, xLT, xN, xP, xPP, xQ])]; exact hf3) (by decide) (show _ = 40 from rfl) (by decide) (by first | decide | (simp; done) | (simp; omega) | omega) (by first | decide | (simp; done) | (simp; omega) | omega) dX1_init_23 (fun q3 H S3 g3 I3 R3 eS3 eg3 eI3 eR3 hw => ?_)
  have a3_xK_k : S3 (xK k) = some (0, 1) := by rw [eS3]; exact nu_al a2_xK_k (by rw [eS2, nu_n _ _ (by simp [xX, xKA, xIA, xPA, xLN, xLR, xK, xSO, xHM, xFT, xLT, xN, xP, xPP, xQ]), eS1, nu_n _ _ (by simp [xX, xKA, xIA, xPA, xLN, xLR, xK, xSO, xHM, xFT, xLT, xN, xP, xPP, xQ])]; exact hf3)
  have a3_xK_kg : g3 (xK k) = g (xK k) := by rw [eg3]; exact (nu_gl a2_xK_k (by rw [eS2, nu_n _ _ (by simp [xX, xKA, xIA, xPA, xLN, xLR, xK, xSO, xHM, xFT, xLT, xN, xP, xPP, xQ]), eS1, nu_n _ _ (by simp [xX, xKA, xIA, xPA, xLN, xLR, xK, xSO, xHM, xFT, xLT, xN, xP, xPP, xQ])]; exact hf3)).trans a2_xK_kg
  have a3_xK_kr3 : R3 (xK k) 3 = some (xSO k) := by rw [eR3, nu_gl a2_xK_k (by rw [eS2, nu_n _ _ (by simp [xX, xKA, xIA, xPA, xLN, xLR, xK, xSO, xHM, xFT, xLT, xN, xP, xPP, xQ]), eS1, nu_n _ _ (by simp [xX, xKA, xIA, xPA, xLN, xLR, xK, xSO, xHM, xFT, xLT, xN, xP, xPP, xQ])]; exact hf3)]; exact u2_xK_k_3
  have a3_xK_kr4 : R3 (xK k) 4 = some (xHM k) := by rw [eR3, nu_gl a2_xK_k (by rw [eS2, nu_n _ _ (by simp [xX, xKA, xIA, xPA, xLN, xLR, xK, xSO, xHM, xFT, xLT, xN, xP, xPP, xQ]), eS1, nu_n _ _ (by simp [xX, xKA, xIA, xPA, xLN, xLR, xK, xSO, xHM, xFT, xLT, xN, xP, xPP, xQ])]; exact hf3)]; exact u2_new
  have a3_xSO_k : S3 (xSO k) = some (1, 40) := by rw [eS3]; exact nu_al a2_xSO_k (by rw [eS2, nu_n _ _ (by simp [xX, xKA, xIA, xPA, xLN, xLR, xK, xSO, xHM, xFT, xLT, xN, xP, xPP, xQ]), eS1, nu_n _ _ (by simp [xX, xKA, xIA, xPA, xLN, xLR, xK, xSO, xHM, xFT, xLT, xN, xP, xPP, xQ])]; exact hf3)
  have a3_xSO_kg : g3 (xSO k) = q1 := by rw [eg3]; exact (nu_gl a2_xSO_k (by rw [eS2, nu_n _ _ (by simp [xX, xKA, xIA, xPA, xLN, xLR, xK, xSO, xHM, xFT, xLT, xN, xP, xPP, xQ]), eS1, nu_n _ _ (by simp [xX, xKA, xIA, xPA, xLN, xLR, xK, xSO, xHM, xFT, xLT, xN, xP, xPP, xQ])]; exact hf3)).trans a2_xSO_kg
  have a3_xHM_k : S3 (xHM k) = some (2, 40) := by rw [eS3]; exact nu_al b2 (by rw [eS2, nu_n _ _ (by simp [xX, xKA, xIA, xPA, xLN, xLR, xK, xSO, xHM, xFT, xLT, xN, xP, xPP, xQ]), eS1, nu_n _ _ (by simp [xX, xKA, xIA, xPA, xLN, xLR, xK, xSO, xHM, xFT, xLT, xN, xP, xPP, xQ])]; exact hf3)
  have a3_xHM_kg : g3 (xHM k) = q2 := by rw [eg3]; exact (nu_gl b2 (by rw [eS2, nu_n _ _ (by simp [xX, xKA, xIA, xPA, xLN, xLR, xK, xSO, xHM, xFT, xLT, xN, xP, xPP, xQ]), eS1, nu_n _ _ (by simp [xX, xKA, xIA, xPA, xLN, xLR, xK, xSO, xHM, xFT, xLT, xN, xP, xPP, xQ])]; exact hf3)).trans b2g
  have b3 : S3 (xFT k) = some (1, 40) := by rw [eS3]; exact nu_s _ _ _
  have b3g : g3 (xFT k) = q3 := by rw [eg3]; exact nu_s _ _ _
  refine fQ1 hx hb ht hown hK hw a3_xK_k a3_xK_kg 5 wf1_19 (by decide) rfl hin rfl (some (xFT k)) (fun m hm => ⟨_, by cases hm; exact b3⟩) (by first | rfl | (simp only [Option.map_some, va_rf]; rw [show g3 (xFT k) = q3 from b3g])) rfl rfl rfl dX1_init_25 (fun H locs T3 eT3 hw => ?_)
  have u3_xK_k_3 : T3 (xK k) 3 = some (xSO k) := by rw [eT3, ru_e, if_neg (by simp [xX, xKA, xIA, xPA, xLN, xLR, xK, xSO, xHM, xFT, xLT, xN, xP, xPP, xQ])]; exact a3_xK_kr3
  have u3_xK_k_4 : T3 (xK k) 4 = some (xHM k) := by rw [eT3, ru_e, if_neg (by simp [xX, xKA, xIA, xPA, xLN, xLR, xK, xSO, xHM, xFT, xLT, xN, xP, xPP, xQ])]; exact a3_xK_kr4
  have u3_new : T3 (xK k) 5 = some (xFT k) := by rw [eT3, ru_e]; simp
  refine lv_aload_n hx hb dX1_init_28 rfl (lv_at hl 0 rfl) ?_
  refine lv_bipush (v := 40) hx hb dX1_init_29 (by decide) ?_
  refine ai_new (xLT k) ht hx hb hK hw (by rw [eS3, nu_n _ _ (by simp [xX, xKA, xIA, xPA, xLN, xLR, xK, xSO, xHM, xFT, xLT, xN, xP, xPP, xQ]), eS2, nu_n _ _ (by simp [xX, xKA, xIA, xPA, xLN, xLR, xK, xSO, xHM, xFT, xLT, xN, xP, xPP, xQ]), eS1, nu_n _ _ (by simp [xX, xKA, xIA, xPA, xLN, xLR, xK, xSO, xHM, xFT, xLT, xN, xP, xPP, xQ])]; exact hf4) (by decide) (show _ = 40 from rfl) (by decide) (by first | decide | (simp; done) | (simp; omega) | omega) (by first | decide | (simp; done) | (simp; omega) | omega) dX1_init_31 (fun q4 H S4 g4 I4 R4 eS4 eg4 eI4 eR4 hw => ?_)
  have a4_xK_k : S4 (xK k) = some (0, 1) := by rw [eS4]; exact nu_al a3_xK_k (by rw [eS3, nu_n _ _ (by simp [xX, xKA, xIA, xPA, xLN, xLR, xK, xSO, xHM, xFT, xLT, xN, xP, xPP, xQ]), eS2, nu_n _ _ (by simp [xX, xKA, xIA, xPA, xLN, xLR, xK, xSO, xHM, xFT, xLT, xN, xP, xPP, xQ]), eS1, nu_n _ _ (by simp [xX, xKA, xIA, xPA, xLN, xLR, xK, xSO, xHM, xFT, xLT, xN, xP, xPP, xQ])]; exact hf4)
  have a4_xK_kg : g4 (xK k) = g (xK k) := by rw [eg4]; exact (nu_gl a3_xK_k (by rw [eS3, nu_n _ _ (by simp [xX, xKA, xIA, xPA, xLN, xLR, xK, xSO, xHM, xFT, xLT, xN, xP, xPP, xQ]), eS2, nu_n _ _ (by simp [xX, xKA, xIA, xPA, xLN, xLR, xK, xSO, xHM, xFT, xLT, xN, xP, xPP, xQ]), eS1, nu_n _ _ (by simp [xX, xKA, xIA, xPA, xLN, xLR, xK, xSO, xHM, xFT, xLT, xN, xP, xPP, xQ])]; exact hf4)).trans a3_xK_kg
  have a4_xK_kr3 : R4 (xK k) 3 = some (xSO k) := by rw [eR4, nu_gl a3_xK_k (by rw [eS3, nu_n _ _ (by simp [xX, xKA, xIA, xPA, xLN, xLR, xK, xSO, xHM, xFT, xLT, xN, xP, xPP, xQ]), eS2, nu_n _ _ (by simp [xX, xKA, xIA, xPA, xLN, xLR, xK, xSO, xHM, xFT, xLT, xN, xP, xPP, xQ]), eS1, nu_n _ _ (by simp [xX, xKA, xIA, xPA, xLN, xLR, xK, xSO, xHM, xFT, xLT, xN, xP, xPP, xQ])]; exact hf4)]; exact u3_xK_k_3
  have a4_xK_kr4 : R4 (xK k) 4 = some (xHM k) := by rw [eR4, nu_gl a3_xK_k (by rw [eS3, nu_n _ _ (by simp [xX, xKA, xIA, xPA, xLN, xLR, xK, xSO, xHM, xFT, xLT, xN, xP, xPP, xQ]), eS2, nu_n _ _ (by simp [xX, xKA, xIA, xPA, xLN, xLR, xK, xSO, xHM, xFT, xLT, xN, xP, xPP, xQ]), eS1, nu_n _ _ (by simp [xX, xKA, xIA, xPA, xLN, xLR, xK, xSO, xHM, xFT, xLT, xN, xP, xPP, xQ])]; exact hf4)]; exact u3_xK_k_4
  have a4_xK_kr5 : R4 (xK k) 5 = some (xFT k) := by rw [eR4, nu_gl a3_xK_k (by rw [eS3, nu_n _ _ (by simp [xX, xKA, xIA, xPA, xLN, xLR, xK, xSO, xHM, xFT, xLT, xN, xP, xPP, xQ]), eS2, nu_n _ _ (by simp [xX, xKA, xIA, xPA, xLN, xLR, xK, xSO, xHM, xFT, xLT, xN, xP, xPP, xQ]), eS1, nu_n _ _ (by simp [xX, xKA, xIA, xPA, xLN, xLR, xK, xSO, xHM, xFT, xLT, xN, xP, xPP, xQ])]; exact hf4)]; exact u3_new
  have a4_xSO_k : S4 (xSO k) = some (1, 40) := by rw [eS4]; exact nu_al a3_xSO_k (by rw [eS3, nu_n _ _ (by simp [xX, xKA, xIA, xPA, xLN, xLR, xK, xSO, xHM, xFT, xLT, xN, xP, xPP, xQ]), eS2, nu_n _ _ (by simp [xX, xKA, xIA, xPA, xLN, xLR, xK, xSO, xHM, xFT, xLT, xN, xP, xPP, xQ]), eS1, nu_n _ _ (by simp [xX, xKA, xIA, xPA, xLN, xLR, xK, xSO, xHM, xFT, xLT, xN, xP, xPP, xQ])]; exact hf4)
  have a4_xSO_kg : g4 (xSO k) = q1 := by rw [eg4]; exact (nu_gl a3_xSO_k (by rw [eS3, nu_n _ _ (by simp [xX, xKA, xIA, xPA, xLN, xLR, xK, xSO, xHM, xFT, xLT, xN, xP, xPP, xQ]), eS2, nu_n _ _ (by simp [xX, xKA, xIA, xPA, xLN, xLR, xK, xSO, xHM, xFT, xLT, xN, xP, xPP, xQ]), eS1, nu_n _ _ (by simp [xX, xKA, xIA, xPA, xLN, xLR, xK, xSO, xHM, xFT, xLT, xN, xP, xPP, xQ])]; exact hf4)).trans a3_xSO_kg
  have a4_xHM_k : S4 (xHM k) = some (2, 40) := by rw [eS4]; exact nu_al a3_xHM_k (by rw [eS3, nu_n _ _ (by simp [xX, xKA, xIA, xPA, xLN, xLR, xK, xSO, xHM, xFT, xLT, xN, xP, xPP, xQ]), eS2, nu_n _ _ (by simp [xX, xKA, xIA, xPA, xLN, xLR, xK, xSO, xHM, xFT, xLT, xN, xP, xPP, xQ]), eS1, nu_n _ _ (by simp [xX, xKA, xIA, xPA, xLN, xLR, xK, xSO, xHM, xFT, xLT, xN, xP, xPP, xQ])]; exact hf4)
  have a4_xHM_kg : g4 (xHM k) = q2 := by rw [eg4]; exact (nu_gl a3_xHM_k (by rw [eS3, nu_n _ _ (by simp [xX, xKA, xIA, xPA, xLN, xLR, xK, xSO, xHM, xFT, xLT, xN, xP, xPP, xQ]), eS2, nu_n _ _ (by simp [xX, xKA, xIA, xPA, xLN, xLR, xK, xSO, xHM, xFT, xLT, xN, xP, xPP, xQ]), eS1, nu_n _ _ (by simp [xX, xKA, xIA, xPA, xLN, xLR, xK, xSO, xHM, xFT, xLT, xN, xP, xPP, xQ])]; exact hf4)).trans a3_xHM_kg
  have a4_xFT_k : S4 (xFT k) = some (1, 40) := by rw [eS4]; exact nu_al b3 (by rw [eS3, nu_n _ _ (by simp [xX, xKA, xIA, xPA, xLN, xLR, xK, xSO, xHM, xFT, xLT, xN, xP, xPP, xQ]), eS2, nu_n _ _ (by simp [xX, xKA, xIA, xPA, xLN, xLR, xK, xSO, xHM, xFT, xLT, xN, xP, xPP, xQ]), eS1, nu_n _ _ (by simp [xX, xKA, xIA, xPA, xLN, xLR, xK, xSO, xHM, xFT, xLT, xN, xP, xPP, xQ])]; exact hf4)
  have a4_xFT_kg : g4 (xFT k) = q3 := by rw [eg4]; exact (nu_gl b3 (by rw [eS3, nu_n _ _ (by simp [xX, xKA, xIA, xPA, xLN, xLR, xK, xSO, xHM, xFT, xLT, xN, xP, xPP, xQ]), eS2, nu_n _ _ (by simp [xX, xKA, xIA, xPA, xLN, xLR, xK, xSO, xHM, xFT, xLT, xN, xP, xPP, xQ]), eS1, nu_n _ _ (by simp [xX, xKA, xIA, xPA, xLN, xLR, xK, xSO, xHM, xFT, xLT, xN, xP, xPP, xQ])]; exact hf4)).trans b3g
  have b4 : S4 (xLT k) = some (1, 40) := by rw [eS4]; exact nu_s _ _ _
  have b4g : g4 (xLT k) = q4 := by rw [eg4]; exact nu_s _ _ _
  refine fQ1 hx hb ht hown hK hw a4_xK_k a4_xK_kg 6 wf1_22 (by decide) rfl hin rfl (some (xLT k)) (fun m hm => ⟨_, by cases hm; exact b4⟩) (by first | rfl | (simp only [Option.map_some, va_rf]; rw [show g4 (xLT k) = q4 from b4g])) rfl rfl rfl dX1_init_33 (fun H locs T4 eT4 hw => ?_)
  have u4_xK_k_3 : T4 (xK k) 3 = some (xSO k) := by rw [eT4, ru_e, if_neg (by simp [xX, xKA, xIA, xPA, xLN, xLR, xK, xSO, xHM, xFT, xLT, xN, xP, xPP, xQ])]; exact a4_xK_kr3
  have u4_xK_k_4 : T4 (xK k) 4 = some (xHM k) := by rw [eT4, ru_e, if_neg (by simp [xX, xKA, xIA, xPA, xLN, xLR, xK, xSO, xHM, xFT, xLT, xN, xP, xPP, xQ])]; exact a4_xK_kr4
  have u4_xK_k_5 : T4 (xK k) 5 = some (xFT k) := by rw [eT4, ru_e, if_neg (by simp [xX, xKA, xIA, xPA, xLN, xLR, xK, xSO, xHM, xFT, xLT, xN, xP, xPP, xQ])]; exact a4_xK_kr5
  have u4_new : T4 (xK k) 6 = some (xLT k) := by rw [eT4, ru_e]; simp
  refine lv_aload_n hx hb dX1_init_36 rfl (lv_at hl 0 rfl) ?_
  refine lv_iload_n hx hb dX1_init_37 rfl (lv_at hl 1 rfl) ?_
  refine fP1 hx hb ht hown hK hw a4_xK_k a4_xK_kg 0 wf1_25 (by decide) rfl hin rfl rfl rfl rfl dX1_init_38 (fun H locs J1 eJ1 hw => ?_)
  refine lv_aload_n hx hb dX1_init_41 rfl (lv_at hl 0 rfl) ?_
  refine lv_iload_n hx hb dX1_init_42 rfl (lv_at hl 2 rfl) ?_
  refine fP1 hx hb ht hown hK hw a4_xK_k a4_xK_kg 1 wf1_29 (by decide) rfl hin rfl rfl rfl rfl dX1_init_43 (fun H locs J2 eJ2 hw => ?_)
  refine lv_aload_n hx hb dX1_init_46 rfl (lv_at hl 0 rfl) ?_
  refine lv_iload_n hx hb dX1_init_47 rfl (lv_at hl 3 rfl) ?_
  refine fP1 hx hb ht hown hK hw a4_xK_k a4_xK_kg 2 wf1_32 (by decide) rfl hin rfl (nb_of hd0) (fb_of hd0) rfl dX1_init_48 (fun H locs J3 eJ3 hw => ?_)
  refine nh_vret hx hb hr hlocks hw (by first | decide | (simp; done) | (simp; omega) | omega) (by first | decide | (simp; done) | (simp; omega) | omega) dX1_init_51 ?_
  have f2 : S1 (xHM k) = none := (by rw [eS1, nu_n _ _ (by simp [xX, xKA, xIA, xPA, xLN, xLR, xK, xSO, xHM, xFT, xLT, xN, xP, xPP, xQ])]; exact hf2)
  have f3 : S2 (xFT k) = none := (by rw [eS2, nu_n _ _ (by simp [xX, xKA, xIA, xPA, xLN, xLR, xK, xSO, xHM, xFT, xLT, xN, xP, xPP, xQ]), eS1, nu_n _ _ (by simp [xX, xKA, xIA, xPA, xLN, xLR, xK, xSO, xHM, xFT, xLT, xN, xP, xPP, xQ])]; exact hf3)
  have f4 : S3 (xLT k) = none := (by rw [eS3, nu_n _ _ (by simp [xX, xKA, xIA, xPA, xLN, xLR, xK, xSO, xHM, xFT, xLT, xN, xP, xPP, xQ]), eS2, nu_n _ _ (by simp [xX, xKA, xIA, xPA, xLN, xLR, xK, xSO, xHM, xFT, xLT, xN, xP, xPP, xQ]), eS1, nu_n _ _ (by simp [xX, xKA, xIA, xPA, xLN, xLR, xK, xSO, xHM, xFT, xLT, xN, xP, xPP, xQ])]; exact hf4)
  have m1 : ∀ m c, S m = some c → S1 m = some c := by rw [eS1]; exact nu_mono (fun _ _ h => h) hf1
  have m2 : ∀ m c, S m = some c → S2 m = some c := by rw [eS2]; exact nu_mono m1 f2
  have m3 : ∀ m c, S m = some c → S3 m = some c := by rw [eS3]; exact nu_mono m2 f3
  have k1 : xgk S g g1 := by rw [eg1]; exact xgk_nu (xgk_rf S g) (fun _ _ h => h) hf1
  have k2 : xgk S g g2 := by rw [eg2]; exact xgk_nu k1 m1 f2
  have k3 : xgk S g g3 := by rw [eg3]; exact xgk_nu k2 m2 f3
  have k4 : xgk S g g4 := by rw [eg4]; exact xgk_nu k3 m3 f4
  refine ⟨rfl, ?_, k4, ?_, ?_⟩
  · rw [eS4, eS3, eS2, eS1]; rfl
  · subst eJ3
    subst eJ2
    subst eJ1
    subst eT4
    subst eS4
    subst eg4
    subst eI4
    subst eR4
    subst eT3
    subst eS3
    subst eg3
    subst eI3
    subst eR3
    subst eT2
    subst eS2
    subst eg2
    subst eI2
    subst eR2
    subst eT1
    subst eS1
    subst eg1
    subst eI1
    subst eR1
    rfl
  · subst eJ3
    subst eJ2
    subst eJ1
    subst eT4
    subst eS4
    subst eg4
    subst eI4
    subst eR4
    subst eT3
    subst eS3
    subst eg3
    subst eI3
    subst eR3
    subst eT2
    subst eS2
    subst eg2
    subst eI2
    subst eR2
    subst eT1
    subst eS1
    subst eg1
    subst eI1
    subst eR1
    rfl
set_option maxHeartbeats 4000000 in
set_option maxRecDepth 100000 in
theorem cxn_Page (l : Launch) (D : va_G) (cA : Nat → ClassId) {S : nh_N → Option nh_C} {g : nh_N → Nat} {J : (nh_N → Nat → Int32)} {R : nh_N → Nat → Option nh_N} (q n : Nat) (hp0 : S (xP q) = some (0, 3)) (hf : S (xPP q) = none) (a : Int32) (b : Int32) (hb0 : b = nI n) (hn2 : n ≤ 200) : im_M l D cA yX3_init vX3_init 1 14 1 n [.ref (g (xP q)), .int a, .int b] S g J R (fun v S' g' I' R' => v = none ∧ S' = nu S (xPP q) (some (6, n)) ∧ xgk S g g' ∧ I' = nu (iu J (xP q) 0 a) (xPP q) (fun _ => 0) ∧ R' = ru (nu R (xPP q) (fun _ => none)) (xP q) 1 (some (xPP q))) := by
  refine nh_of (cc := cX3_init) (maxL := 3) (ret := none) (by decide) rfl (Nat.le_of_ble_eq_true rfl) ?_
  intro p e s m below meth c A ls hx hb hr hml hts hown hlocks hin hK hw hl
  have ht : ∀ w ∈ im_ws, w.before _ s = true := fun w h => hts w (List.mem_cons_of_mem _ h)
  have hl : lv_has ls 3 [(0, .ref (g (xP q))), (1, .int a), (2, .int b)] := hl
  have hmx : (if (0 : Int32) < b then b else 0) = nI n := by
    rw [hb0]
    by_cases h : 0 < n
    · rw [if_pos (show (0 : Int32) < nI n from nI_lt (a := 0) h (by omega))]
    · rw [if_neg (fun w => by have := (nI_ltI (a := 0) (b := n) (by omega) (by omega)).mp w; omega), show n = 0 by omega]; rfl
  refine lv_aload_n hx hb dX3_init_0 rfl (lv_at hl 0 rfl) ?_
  refine im_objInit hx hb ht hown wm3_1 (by rw [hml]; exact hl.1) (by first | decide | (simp; done) | (simp; omega) | omega) (by first | decide | (simp; done) | (simp; omega) | omega) dX3_init_1 ?_
  refine lv_aload_n hx hb dX3_init_4 rfl (lv_at hl 0 rfl) ?_
  refine lv_iload_n hx hb dX3_init_5 rfl (lv_at hl 1 rfl) ?_
  refine fP3 hx hb ht hown hK hw hp0 rfl 0 wf3_7 (by decide) rfl hin rfl rfl rfl rfl dX3_init_6 (fun H locs J1 eJ1 hw => ?_)
  refine lv_aload_n hx hb dX3_init_9 rfl (lv_at hl 0 rfl) ?_
  refine lv_iconst (v := 0) hx hb dX3_init_10 (by decide) ?_
  refine lv_iload_n hx hb dX3_init_11 rfl (lv_at hl 2 rfl) ?_
  refine im_max hx hb (by rw [hml]; exact hl.1.symm) ht hown wm3_13 (by first | decide | (simp; done) | (simp; omega) | omega) (by simp [Value.category]) (by first | decide | (simp; done) | (simp; omega) | omega) (by first | decide | (simp; done) | (simp; omega) | omega) dX3_init_12 ?_
  refine ar_new4 (N' := n) (xPP q) hx hb ht hown hK hw hf wl3_19 (by rw [hmx]; exact nI_pos (by omega)) (by rw [hmx]; exact nI_clamp (by omega)) (by omega) (by first | decide | (simp; done) | (simp; omega) | omega) (by first | decide | (simp; done) | (simp; omega) | omega) dX3_init_15 (fun q1 H S1 g1 I1 R1 eS1 eg1 eI1 eR1 hw => ?_)
  have a1_xP_q : S1 (xP q) = some (0, 3) := by rw [eS1]; exact nu_al hp0 hf
  have a1_xP_qg : g1 (xP q) = g (xP q) := by rw [eg1]; exact (nu_gl hp0 hf).trans rfl
  have b1 : S1 (xPP q) = some (6, n) := by rw [eS1]; exact nu_s _ _ _
  have b1g : g1 (xPP q) = q1 := by rw [eg1]; exact nu_s _ _ _
  refine fQ3 hx hb ht hown hK hw a1_xP_q a1_xP_qg 1 wf3_21 (by decide) rfl hin rfl (some (xPP q)) (fun m hm => ⟨_, by cases hm; exact b1⟩) (by first | rfl | (simp only [Option.map_some, va_rf]; rw [show g1 (xPP q) = q1 from b1g])) rfl rfl rfl dX3_init_18 (fun H locs T1 eT1 hw => ?_)
  have u1_new : T1 (xP q) 1 = some (xPP q) := by rw [eT1, ru_e]; simp
  refine nh_vret hx hb hr hlocks hw (by first | decide | (simp; done) | (simp; omega) | omega) (by first | decide | (simp; done) | (simp; omega) | omega) dX3_init_21 ?_
  subst eT1
  subst eS1
  subst eg1
  subst eI1
  subst eR1
  subst eJ1
  exact ⟨rfl, rfl, xgk_nu (xgk_rf S g) (fun _ _ h => h) hf, rfl, rfl⟩
end
section
theorem xap_o (J : nh_N → Nat → Int32) (i k : Nat) (a b : Int32) (n : nh_N) (j : Nat) (h1 : n ≠ xN i) (h2 : n ≠ xK k) : (xf_addPart J i k a b).2 n j = J n j := by
  unfold xf_addPart xf_nextNumber
  split <;> simp [iu_e, h1, h2]
def xI_place (J : nh_N → Nat → Int32) (q c0 i k : Nat) (a d : Int32) : nh_N → Nat → Int32 := (iu (iu (iu (iu (iu (nu (xf_addPart J i k (J (xP q) 0) a).2 (xQ q c0) (fun _ => 0)) (xQ q c0) 1 a) (xQ q c0) 2 d) (xP q) 2 (((iu (iu (nu (xf_addPart J i k (J (xP q) 0) a).2 (xQ q c0) (fun _ => 0)) (xQ q c0) 1 a) (xQ q c0) 2 d) (xP q) 2) + 1)) (xP q) 3 (((iu (iu (nu (xf_addPart J i k (J (xP q) 0) a).2 (xQ q c0) (fun _ => 0)) (xQ q c0) 1 a) (xQ q c0) 2 d) (xP q) 3) + a)) (xSO k) ((iu (iu (nu (xf_addPart J i k (J (xP q) 0) a).2 (xQ q c0) (fun _ => 0)) (xQ q c0) 1 a) (xQ q c0) 2 d) (xP q) 0).toNatClampNeg (((iu (iu (iu (iu (nu (xf_addPart J i k (J (xP q) 0) a).2 (xQ q c0) (fun _ => 0)) (xQ q c0) 1 a) (xQ q c0) 2 d) (xP q) 2 (((iu (iu (nu (xf_addPart J i k (J (xP q) 0) a).2 (xQ q c0) (fun _ => 0)) (xQ q c0) 1 a) (xQ q c0) 2 d) (xP q) 2) + 1)) (xP q) 3 (((iu (iu (nu (xf_addPart J i k (J (xP q) 0) a).2 (xQ q c0) (fun _ => 0)) (xQ q c0) 1 a) (xQ q c0) 2 d) (xP q) 3) + a)) (xSO k) ((iu (iu (nu (xf_addPart J i k (J (xP q) 0) a).2 (xQ q c0) (fun _ => 0)) (xQ q c0) 1 a) (xQ q c0) 2 d) (xP q) 0).toNatClampNeg) + a))
def xR_place (R : nh_N → Nat → Option nh_N) (q c0 i : Nat) : nh_N → Nat → Option nh_N := ru (ru (nu R (xQ q c0) (fun _ => none)) (xQ q c0) 0 (some (xN i))) (xPP q) c0 (some (xQ q c0))
set_option maxHeartbeats 4000000 in
set_option maxRecDepth 100000 in
theorem cx_place (l : Launch) (D : va_G) (cA : Nat → ClassId) {S : nh_N → Option nh_C} {g : nh_N → Nat} {J : (nh_N → Nat → Int32)} {R : nh_N → Nat → Option nh_N} (q n i k c0 : Nat) (hp0 : xPs S R q n) (hn : xNs S R i k) (hk : xKs S R k) (hfq : S (xQ q c0) = none) (a : Int32) (d : Int32) (hc0 : J (xP q) 2 = nI c0) (hcn : c0 < n) (hn2 : n ≤ 200) (hq0 : J (xP q) 0 = nI q) (hq4 : q < 40) (hd0 : d = 0 ∨ d = 1) : im_M l D cA yX3_place vX3_place 2 42 1 3 [.ref (g (xP q)), .ref (g (xN i)), .int a, .int d] S g J R (fun v S' g' I' R' => v = none ∧ S' = nu S (xQ q c0) (some (0, 4)) ∧ xgk S g g' ∧ I' = xI_place J q c0 i k a d ∧ R' = xR_place R q c0 i) := by
  refine nh_of (cc := cX3_place) (maxL := 4) (ret := none) (by decide) rfl (Nat.le_of_ble_eq_true rfl) ?_
  intro p e s m below meth c A ls hx hb hr hml hts hown hlocks hin hK hw hl
  have ht : ∀ w ∈ im_ws, w.before _ s = true := fun w h => hts w (List.mem_cons_of_mem _ h)
  have hl : lv_has ls 4 [(0, .ref (g (xP q))), (1, .ref (g (xN i))), (2, .int a), (3, .int d)] := hl
  refine lv_aload_n hx hb dX3_place_0 rfl (lv_at hl 0 rfl) ?_
  refine fg3 (v := .int (J (xP q) 2)) hx hb ht hown hK hw hp0.1 rfl 2 wf3_25 (by decide) (nh_vi rfl) dX3_place_1 ?_
  refine lv_aload_n hx hb dX3_place_4 rfl (lv_at hl 0 rfl) ?_
  refine fg3 (v := .ref (g (xPP q))) hx hb ht hown hK hw hp0.1 rfl 1 wf3_21 (by decide) (nh_vr rfl hp0.2.1) dX3_place_5 ?_
  refine ar_len4 hx hb hK hw hp0.2.2 rfl dX3_place_8 ?_
  refine lv_icmp_lt (tgt := 13) hx hb dX3_place_9 (by decide) (fun c9 => ?_) (fun c9 => ?_)
  · refine lv_aload_n hx hb dX3_place_13 rfl (lv_at hl 1 rfl) ?_
    refine lv_aload_n hx hb dX3_place_14 rfl (lv_at hl 0 rfl) ?_
    refine fg3 (v := .int (J (xP q) 0)) hx hb ht hown hK hw hp0.1 rfl 0 wf3_7 (by decide) (nh_vi rfl) dX3_place_15 ?_
    refine lv_iload_n hx hb dX3_place_18 rfl (lv_at hl 2 rfl) ?_
    refine kcX0_addPart (As := [.int (J (xP q) 0), .int a]) (rest := []) wm3_28 (cxf_addPart l D cA i k hn hk (J (xP q) 0) a) hx hb hml ht hown hK hw hn.1 rfl rfl hl.1 rfl (by simp [Value.category]) ⟨by decide, by decide⟩ ⟨by simp, by simp⟩ dX3_place_19 (fun v S1 g1 J1 R1 H locs hp hw => ?_)
    obtain ⟨rfl, h1, h2, eJ1, h4⟩ := hp
    rw [h1, h2, h4] at hw
    clear h1 h2 h4
    show W _ _ _ _ _ _ _ _ _ _ _ _ _ _ _ (F0 m 22 ls [])
    refine lv_aload_n hx hb dX3_place_22 rfl (lv_at hl 0 rfl) ?_
    refine fg3 (v := .ref (g (xPP q))) hx hb ht hown hK hw hp0.1 rfl 1 wf3_21 (by decide) (nh_vr rfl hp0.2.1) dX3_place_23 ?_
    refine lv_aload_n hx hb dX3_place_26 rfl (lv_at hl 0 rfl) ?_
    refine fg3 (v := .int (J1 (xP q) 2)) hx hb ht hown hK hw hp0.1 rfl 2 wf3_25 (by decide) (nh_vi rfl) dX3_place_27 ?_
    refine fn4 (xQ q c0) hx hb ht hown hK hw hfq wl3_19 (by first | decide | (simp; done) | (simp; omega) | omega) (by first | decide | (simp; done) | (simp; omega) | omega) dX3_place_30 (fun q1 H S1 g1 I1 R1 eS1 eg1 eI1 eR1 hw => ?_)
    have a1_xP_q : S1 (xP q) = some (0, 3) := by rw [eS1]; exact nu_al hp0.1 hfq
    have a1_xP_qg : g1 (xP q) = g (xP q) := by rw [eg1]; exact (nu_gl hp0.1 hfq).trans rfl
    have a1_xP_qr1 : R1 (xP q) 1 = some (xPP q) := by rw [eR1, nu_gl hp0.1 hfq]; exact hp0.2.1
    have a1_xPP_q : S1 (xPP q) = some (6, n) := by rw [eS1]; exact nu_al hp0.2.2 hfq
    have a1_xPP_qg : g1 (xPP q) = g (xPP q) := by rw [eg1]; exact (nu_gl hp0.2.2 hfq).trans rfl
    have a1_xN_i : S1 (xN i) = some (0, 0) := by rw [eS1]; exact nu_al hn.1 hfq
    have a1_xN_ig : g1 (xN i) = g (xN i) := by rw [eg1]; exact (nu_gl hn.1 hfq).trans rfl
    have a1_xN_ir1 : R1 (xN i) 1 = some (xK k) := by rw [eR1, nu_gl hn.1 hfq]; exact hn.2
    have a1_xK_k : S1 (xK k) = some (0, 1) := by rw [eS1]; exact nu_al hk.1 hfq
    have a1_xK_kg : g1 (xK k) = g (xK k) := by rw [eg1]; exact (nu_gl hk.1 hfq).trans rfl
    have a1_xK_kr3 : R1 (xK k) 3 = some (xSO k) := by rw [eR1, nu_gl hk.1 hfq]; exact hk.2.1
    have a1_xSO_k : S1 (xSO k) = some (1, 40) := by rw [eS1]; exact nu_al hk.2.2.1 hfq
    have a1_xSO_kg : g1 (xSO k) = g (xSO k) := by rw [eg1]; exact (nu_gl hk.2.2.1 hfq).trans rfl
    have b1 : S1 (xQ q c0) = some (0, 4) := by rw [eS1]; exact nu_s _ _ _
    have b1g : g1 (xQ q c0) = q1 := by rw [eg1]; exact nu_s _ _ _
    refine lv_dup hx hb dX3_place_33 rfl ?_
    refine lv_aload_n hx hb dX3_place_34 rfl (lv_at hl 1 rfl) ?_
    refine lv_iload_n hx hb dX3_place_35 rfl (lv_at hl 2 rfl) ?_
    refine lv_iload_n hx hb dX3_place_36 rfl (lv_at hl 3 rfl) ?_
    have hM0 := (cxn_Part l D cA (S := S1) (g := g1) (J := I1) (R := R1) q c0 i b1 a1_xN_i a d hd0)
    rw [show g1 (xQ q c0) = q1 from b1g, show g1 (xN i) = g (xN i) from a1_xN_ig] at hM0
    refine kcX4_init (As := [.ref (g (xN i)), .int a, .int d]) (rest := [.ref q1, .int (J1 (xP q) 2), .ref (g (xPP q))]) wm3_34 hM0 hx hb hml ht hown hK hw rfl hl.1 rfl (by simp [Value.category]) ⟨(by first | decide | (simp; done) | (simp; omega) | omega), (by first | decide | (simp; done) | (simp; omega) | omega)⟩ ⟨(by first | decide | (simp; done) | (simp; omega) | omega), (by first | decide | (simp; done) | (simp; omega) | omega)⟩ dX3_place_37 (fun v S0 g0 J2 T1 H locs hp hw _ _ => ?_)
    obtain ⟨rfl, h1, h2, eJ2, eT1⟩ := hp
    rw [h1, h2] at hw
    clear h1 h2 hM0
    have u1_xP_q_1 : T1 (xP q) 1 = some (xPP q) := by rw [eT1, ru_e, if_neg (by simp [xX, xKA, xIA, xPA, xLN, xLR, xK, xSO, xHM, xFT, xLT, xN, xP, xPP, xQ])]; exact a1_xP_qr1
    have u1_xN_i_1 : T1 (xN i) 1 = some (xK k) := by rw [eT1, ru_e, if_neg (by simp [xX, xKA, xIA, xPA, xLN, xLR, xK, xSO, xHM, xFT, xLT, xN, xP, xPP, xQ])]; exact a1_xN_ir1
    have u1_xK_k_3 : T1 (xK k) 3 = some (xSO k) := by rw [eT1, ru_e, if_neg (by simp [xX, xKA, xIA, xPA, xLN, xLR, xK, xSO, xHM, xFT, xLT, xN, xP, xPP, xQ])]; exact a1_xK_kr3
    have u1_new : T1 (xQ q c0) 0 = some (xN i) := by rw [eT1, ru_e]; simp
    show W _ _ _ _ _ _ _ _ _ _ _ _ _ _ _ (F0 m 40 ls [.ref q1, .int (J1 (xP q) 2), .ref (g (xPP q))])
    refine ar_st4 hx hb hK hw a1_xPP_q a1_xPP_qg (xQ q c0) b1 b1g (ix_of c0 (by rw [eJ1, xap_o _ _ _ _ _ _ _ (by simp [xX, xKA, xIA, xPA, xLN, xLR, xK, xSO, xHM, xFT, xLT, xN, xP, xPP, xQ]) (by simp [xX, xKA, xIA, xPA, xLN, xLR, xK, xSO, xHM, xFT, xLT, xN, xP, xPP, xQ])]; exact hc0) hcn (by omega)) dX3_place_40 (fun H locs T2 eT2 hw => ?_)
    have u2_xP_q_1 : T2 (xP q) 1 = some (xPP q) := by rw [eT2, ru_e, if_neg (by simp [xX, xKA, xIA, xPA, xLN, xLR, xK, xSO, xHM, xFT, xLT, xN, xP, xPP, xQ])]; exact u1_xP_q_1
    have u2_xN_i_1 : T2 (xN i) 1 = some (xK k) := by rw [eT2, ru_e, if_neg (by simp [xX, xKA, xIA, xPA, xLN, xLR, xK, xSO, xHM, xFT, xLT, xN, xP, xPP, xQ])]; exact u1_xN_i_1
    have u2_xK_k_3 : T2 (xK k) 3 = some (xSO k) := by rw [eT2, ru_e, if_neg (by simp [xX, xKA, xIA, xPA, xLN, xLR, xK, xSO, xHM, xFT, xLT, xN, xP, xPP, xQ])]; exact u1_xK_k_3
    have u2_xQ_q_c0_0 : T2 (xQ q c0) 0 = some (xN i) := by rw [eT2, ru_e, if_neg (by simp [xX, xKA, xIA, xPA, xLN, xLR, xK, xSO, xHM, xFT, xLT, xN, xP, xPP, xQ])]; exact u1_new
    refine lv_aload_n hx hb dX3_place_41 rfl (lv_at hl 0 rfl) ?_
    refine lv_dup hx hb dX3_place_42 rfl ?_
    refine fg3 (v := .int (J2 (xP q) 2)) hx hb ht hown hK hw a1_xP_q a1_xP_qg 2 wf3_25 (by decide) (by simp [nh_v, im_sk, iu_e, xX, xKA, xIA, xPA, xLN, xLR, xK, xSO, xHM, xFT, xLT, xN, xP, xPP, xQ, eT2]) dX3_place_43 ?_
    refine lv_iconst (v := 1) hx hb dX3_place_46 (by decide) ?_
    refine lv_iadd hx hb dX3_place_47 ?_
    refine fp3 hx hb ht hown hK hw a1_xP_q a1_xP_qg 2 wf3_25 (by decide) rfl rfl rfl rfl dX3_place_48 (fun H locs J3 eJ3 hw => ?_)
    refine lv_aload_n hx hb dX3_place_51 rfl (lv_at hl 0 rfl) ?_
    refine lv_dup hx hb dX3_place_52 rfl ?_
    refine fg3 (v := .int (J2 (xP q) 3)) hx hb ht hown hK hw a1_xP_q a1_xP_qg 3 wf3_37 (by decide) (by simp [nh_v, im_sk, iu_e, xX, xKA, xIA, xPA, xLN, xLR, xK, xSO, xHM, xFT, xLT, xN, xP, xPP, xQ, eJ3, eT2]) dX3_place_53 ?_
    refine lv_iload_n hx hb dX3_place_56 rfl (lv_at hl 2 rfl) ?_
    refine lv_iadd hx hb dX3_place_57 ?_
    refine fp3 hx hb ht hown hK hw a1_xP_q a1_xP_qg 3 wf3_37 (by decide) rfl rfl rfl rfl dX3_place_58 (fun H locs J4 eJ4 hw => ?_)
    refine lv_aload_n hx hb dX3_place_61 rfl (lv_at hl 1 rfl) ?_
    refine fg0 (v := .ref (g (xK k))) hx hb ht hown hK hw a1_xN_i a1_xN_ig 1 wf3_40 (by decide) ((nh_vr rfl u2_xN_i_1).trans (congrArg Value.ref a1_xK_kg)) dX3_place_62 ?_
    refine fg1 (v := .ref (g (xSO k))) hx hb ht hown hK hw a1_xK_k a1_xK_kg 3 wf3_44 (by decide) ((nh_vr rfl u2_xK_k_3).trans (congrArg Value.ref a1_xSO_kg)) dX3_place_65 ?_
    refine lv_aload_n hx hb dX3_place_68 rfl (lv_at hl 0 rfl) ?_
    refine fg3 (v := .int (J2 (xP q) 0)) hx hb ht hown hK hw a1_xP_q a1_xP_qg 0 wf3_7 (by decide) (by simp [nh_v, im_sk, iu_e, xX, xKA, xIA, xPA, xLN, xLR, xK, xSO, xHM, xFT, xLT, xN, xP, xPP, xQ, eJ4, eJ3, eT2]) dX3_place_69 ?_
    refine lv_dup2_11 hx hb dX3_place_72 rfl rfl ?_
    refine ai_ld hx hb hK hw a1_xSO_k a1_xSO_kg (ix_of q (by simp [xX, xKA, xIA, xPA, xLN, xLR, xK, xSO, xHM, xFT, xLT, xN, xP, xPP, xQ, iu_e, nu, eJ4, eJ3, eJ2, eI1, eJ1, xap_o, hq0]) hq4 (by decide)) dX3_place_73 ?_
    refine lv_iload_n hx hb dX3_place_74 rfl (lv_at hl 2 rfl) ?_
    refine lv_iadd hx hb dX3_place_75 ?_
    refine ai_st hx hb hK hw a1_xSO_k a1_xSO_kg (ix_of q (by simp [xX, xKA, xIA, xPA, xLN, xLR, xK, xSO, xHM, xFT, xLT, xN, xP, xPP, xQ, iu_e, nu, eJ4, eJ3, eJ2, eI1, eJ1, xap_o, hq0]) hq4 (by decide)) dX3_place_76 (fun H locs J5 eJ5 hw => ?_)
    refine nh_vret hx hb hr hlocks hw (by first | decide | (simp; done) | (simp; omega) | omega) (by first | decide | (simp; done) | (simp; omega) | omega) dX3_place_77 ?_
    subst eJ5
    subst eJ4
    subst eJ3
    subst eT2
    subst eT1
    subst eJ2
    subst eS1
    subst eg1
    subst eI1
    subst eR1
    subst eJ1
    exact ⟨rfl, rfl, xgk_nu (xgk_rf S g) (fun _ _ h => h) hfq, rfl, by rw [xap_o _ _ _ _ _ _ _ (by simp [xX, xKA, xIA, xPA, xLN, xLR, xK, xSO, xHM, xFT, xLT, xN, xP, xPP, xQ]) (by simp [xX, xKA, xIA, xPA, xLN, xLR, xK, xSO, xHM, xFT, xLT, xN, xP, xPP, xQ]), hc0, nI_clamp (by omega)]; rfl⟩
  · exact absurd (by rw [hc0]; exact nI_lt hcn (by omega)) c9
end
section
theorem xpl_h (J : nh_N → Nat → Int32) (q c0 i k : Nat) (a d : Int32) : xI_place J q c0 i k a d (xK k) 8 = J (xK k) 8 := by
  unfold xI_place xf_addPart xf_nextNumber
  split <;> simp [iu_e, nu, xX, xKA, xIA, xPA, xLN, xLR, xK, xSO, xHM, xFT, xLT, xN, xP, xPP, xQ]
theorem xR_pl_o {R : nh_N → Nat → Option nh_N} {q c0 i : Nat} {m : nh_N} {j : Nat} (h1 : m ≠ xQ q c0) (h2 : m ≠ xPP q) : xR_place R q c0 i m j = R m j := by
  unfold xR_place
  rw [ru_e, if_neg (fun w => h2 w.1), ru_e, if_neg (fun w => h1 w.1), nu_n _ _ h1]
/-- nothing was made -/
def xno (v0 : Int32) (S : nh_N → Option nh_C) (g : nh_N → Nat) (I0 : nh_N → Nat → Int32) (R : nh_N → Nat → Option nh_N) : nh_post := fun v S' g' I' R' => v = some (.int v0) ∧ S' = S ∧ g' = g ∧ I' = I0 ∧ R' = R
/-- one part was made: the part c0 of page q, of insert i -/
def xpl (v0 : Int32) (S : nh_N → Option nh_C) (g : nh_N → Nat) (I0 : nh_N → Nat → Int32) (R : nh_N → Nat → Option nh_N) (q c0 i : Nat) : nh_post := fun v S' g' I' R' => v = some (.int v0) ∧ S' = nu S (xQ q c0) (some (0, 4)) ∧ xgk S g g' ∧ I' = I0 ∧ R' = xR_place R q c0 i
def xgoP (S : nh_N → Option nh_C) (g : nh_N → Nat) (J : nh_N → Nat → Int32) (R : nh_N → Nat → Option nh_N) (q c0 i k : Nat) : nh_post := fun v S' g' I' R' =>
  (¬ J (xK k) 8 = 0 ∧ xno 1 S g J R v S' g' I' R') ∨ (J (xK k) 8 = 0 ∧ ¬ xf_freeOn J q k < J (xN i) 3 ∧ xpl 0 S g (xI_place J q c0 i k (J (xN i) 3) 0) R q c0 i v S' g' I' R') ∨
  (J (xK k) 8 = 0 ∧ xf_freeOn J q k < J (xN i) 3 ∧ ¬ xf_mayCut J k (J (xN i) 3) (xf_freeOn J q k) = 0 ∧ xpl 1 S g (iu (xI_place J q c0 i k (xf_freeOn J q k) 0) (xK k) 8 1) R q c0 i v S' g' I' R') ∨
  (J (xK k) 8 = 0 ∧ xf_freeOn J q k < J (xN i) 3 ∧ xf_mayCut J k (J (xN i) 3) (xf_freeOn J q k) = 0 ∧ J (xP q) 3 = 0 ∧ xpl 0 S g (xI_place J q c0 i k (J (xN i) 3) 1) R q c0 i v S' g' I' R') ∨
  (J (xK k) 8 = 0 ∧ xf_freeOn J q k < J (xN i) 3 ∧ xf_mayCut J k (J (xN i) 3) (xf_freeOn J q k) = 0 ∧ ¬ J (xP q) 3 = 0 ∧ xno 1 S g (iu J (xK k) 8 1) R v S' g' I' R')
set_option maxHeartbeats 4000000 in
set_option maxRecDepth 100000 in
theorem cx_goThrough (l : Launch) (D : va_G) (cA : Nat → ClassId) {S : nh_N → Option nh_C} {g : nh_N → Nat} {J : (nh_N → Nat → Int32)} {R : nh_N → Nat → Option nh_N} (q n i k c0 : Nat) (hX : xXs S R) (hp0 : xPs S R q n) (hn : xNs S R i k) (hk : xKs S R k) (hfq : S (xQ q c0) = none)  (hc0 : J (xP q) 2 = nI c0) (hcn : c0 < n) (hn2 : n ≤ 200) (hq0 : J (xP q) 0 = nI q) (hq4 : q < 40) : im_M l D cA yX5_goThrough vX5_goThrough 3 65 1 3 [.ref (g xX), .ref (g (xP q)), .ref (g (xN i))] S g J R (xgoP S g J R q c0 i k) := by
  refine nh_of (cc := cX5_goThrough) (maxL := 5) (ret := (some .boolean)) (by decide) rfl (Nat.le_of_ble_eq_true rfl) ?_
  intro p e s m below meth c A ls hx hb hr hml hts hown hlocks hin hK hw hl
  have ht : ∀ w ∈ im_ws, w.before _ s = true := fun w h => hts w (List.mem_cons_of_mem _ h)
  have hl : lv_has ls 5 [(0, .ref (g xX)), (1, .ref (g (xP q))), (2, .ref (g (xN i)))] := hl
  refine lv_aload_n hx hb dX5_goThrough_0 rfl (lv_at hl 2 rfl) ?_
  refine fg0 (v := .ref (g (xK k))) hx hb ht hown hK hw hn.1 rfl 1 wf5_189 (by decide) (nh_vr rfl hn.2) dX5_goThrough_1 ?_
  refine lv_astore_n (lv' := [(3, .ref (g (xK k))), (0, .ref (g xX)), (1, .ref (g (xP q))), (2, .ref (g (xN i)))]) hx hb dX5_goThrough_4 rfl hl (by decide) rfl (fun ls hl => ?_)
  refine lv_aload_n hx hb dX5_goThrough_5 rfl (lv_at hl 0 rfl) ?_
  refine fg1 (v := .int (J (xK k) 8)) hx hb ht hown hK hw hk.1 rfl 8 wf5_193 (by decide) (nh_vi rfl) dX5_goThrough_6 ?_
  refine lv_if_eq (tgt := 14) hx hb dX5_goThrough_9 (by decide) (fun c9 => ?_) (fun c9 => ?_)
  · refine lv_aload_n hx hb dX5_goThrough_14 rfl (lv_at hl 1 rfl) ?_
    refine lv_aload_n hx hb dX5_goThrough_15 rfl (lv_at hl 2 rfl) ?_
    refine lv_aload_n hx hb dX5_goThrough_16 rfl (lv_at hl 0 rfl) ?_
    refine kcX5_freeOn (As := [.ref (g (xP q)), .ref (g (xK k))]) (rest := []) wm5_196 (cxf_freeOn l D cA q k hX hp0 hk hq0 hq4) hx hb hml ht hown hK hw hX.1 rfl rfl hl.1 rfl (by simp [Value.category]) ⟨by decide, by decide⟩ ⟨by simp, by simp⟩ dX5_goThrough_17 (fun v S1 g1 I1 R1 H locs hp hw => ?_)
    obtain ⟨rfl, h1, h2, h3, h4⟩ := hp
    rw [h1, h2, h3, h4] at hw
    clear h1 h2 h3 h4
    show W _ _ _ _ _ _ _ _ _ _ _ _ _ _ _ (F0 m 20 ls [.int (xf_freeOn J q k)])
    refine lv_istore (lv' := [(4, .int (xf_freeOn J q k)), (3, .ref (g (xK k))), (0, .ref (g xX)), (1, .ref (g (xP q))), (2, .ref (g (xN i)))]) hx hb dX5_goThrough_20 hl (by decide) rfl (fun ls hl => ?_)
    refine lv_aload_n hx hb dX5_goThrough_22 rfl (lv_at hl 4 rfl) ?_
    refine fg0 (v := .int (J (xN i) 3)) hx hb ht hown hK hw hn.1 rfl 3 wf5_102 (by decide) (nh_vi rfl) dX5_goThrough_23 ?_
    refine lv_iload hx hb dX5_goThrough_26 (lv_at hl 0 rfl) ?_
    refine lv_icmp_gt (tgt := 44) hx hb dX5_goThrough_28 (by decide) (fun c28 => ?_) (fun c28 => ?_)
    · refine lv_aload_n hx hb dX5_goThrough_44 rfl (lv_at hl 1 rfl) ?_
      refine lv_aload_n hx hb dX5_goThrough_45 rfl (lv_at hl 4 rfl) ?_
      refine fg0 (v := .int (J (xN i) 3)) hx hb ht hown hK hw hn.1 rfl 3 wf5_102 (by decide) (nh_vi rfl) dX5_goThrough_46 ?_
      refine lv_iload hx hb dX5_goThrough_49 (lv_at hl 0 rfl) ?_
      refine kcX1_mayCut (As := [.int (J (xN i) 3), .int (xf_freeOn J q k)]) (rest := []) wm5_204 (cxf_mayCut l D cA k hk (J (xN i) 3) (xf_freeOn J q k)) hx hb hml ht hown hK hw hk.1 rfl rfl hl.1 rfl (by simp [Value.category]) ⟨by decide, by decide⟩ ⟨by simp, by simp⟩ dX5_goThrough_51 (fun v S1 g1 I1 R1 H locs hp hw => ?_)
      obtain ⟨rfl, h1, h2, h3, h4⟩ := hp
      rw [h1, h2, h3, h4] at hw
      clear h1 h2 h3 h4
      show W _ _ _ _ _ _ _ _ _ _ _ _ _ _ _ (F0 m 54 ls [.int (xf_mayCut J k (J (xN i) 3) (xf_freeOn J q k))])
      refine lv_if_eq (tgt := 73) hx hb dX5_goThrough_54 (by decide) (fun c54 => ?_) (fun c54 => ?_)
      · refine lv_aload_n hx hb dX5_goThrough_73 rfl (lv_at hl 3 rfl) ?_
        refine fg3 (v := .int (J (xP q) 3)) hx hb ht hown hK hw hp0.1 rfl 3 wf5_150 (by decide) (nh_vi rfl) dX5_goThrough_74 ?_
        refine lv_if_ne (tgt := 93) hx hb dX5_goThrough_77 (by decide) (fun c77 => ?_) (fun c77 => ?_)
        · refine lv_aload_n hx hb dX5_goThrough_93 rfl (lv_at hl 1 rfl) ?_
          refine lv_iconst (v := 1) hx hb dX5_goThrough_94 (by decide) ?_
          refine fp1 hx hb ht hown hK hw hk.1 rfl 8 wf5_193 (by decide) rfl rfl rfl rfl dX5_goThrough_95 (fun H locs J1 eJ1 hw => ?_)
          refine lv_aload_n hx hb dX5_goThrough_98 rfl (lv_at hl 1 rfl) ?_
          refine fg1 (v := .int 1) hx hb ht hown hK hw hk.1 rfl 8 wf5_193 (by decide) (by simp [nh_v, im_sk, iu_e, xX, xKA, xIA, xPA, xLN, xLR, xK, xSO, xHM, xFT, xLT, xN, xP, xPP, xQ, eJ1]) dX5_goThrough_99 ?_
          refine nh_iret hx hb hr rfl hlocks hw (by first | decide | (simp; done) | (simp; omega) | omega) (by first | decide | (simp; done) | (simp; omega) | omega) dX5_goThrough_102 ?_
          subst eJ1
          exact Or.inr (Or.inr (Or.inr (Or.inr ⟨c9, c28, c54, c77, rfl, rfl, rfl, rfl, rfl⟩)))
        · refine lv_aload_n hx hb dX5_goThrough_80 rfl (lv_at hl 3 rfl) ?_
          refine lv_aload_n hx hb dX5_goThrough_81 rfl (lv_at hl 4 rfl) ?_
          refine lv_aload_n hx hb dX5_goThrough_82 rfl (lv_at hl 4 rfl) ?_
          refine fg0 (v := .int (J (xN i) 3)) hx hb ht hown hK hw hn.1 rfl 3 wf5_102 (by decide) (nh_vi rfl) dX5_goThrough_83 ?_
          refine lv_iconst (v := 1) hx hb dX5_goThrough_86 (by decide) ?_
          refine kcX3_place (As := [.ref (g (xN i)), .int (J (xN i) 3), .int 1]) (rest := []) wm5_200 (cx_place l D cA q n i k c0 hp0 hn hk hfq (J (xN i) 3) 1 hc0 hcn hn2 hq0 hq4 (by simp)) hx hb hml ht hown hK hw hp0.1 rfl rfl hl.1 rfl (by simp [Value.category]) ⟨by decide, by decide⟩ ⟨(by first | decide | (simp; done) | (simp; omega) | omega), (by first | decide | (simp; done) | (simp; omega) | omega)⟩ dX5_goThrough_87 (fun v S1 g1 I1 R1 H locs hp hw => ?_)
          obtain ⟨rfl, eS1, hg1, eI1, eR1⟩ := hp
          have a1_xX : S1 xX = some (0, 5) := by rw [eS1]; exact nu_al hX.1 hfq
          have a1_xXg : g1 xX = g xX := hg1 _ _ hX.1
          have a1_xP_q : S1 (xP q) = some (0, 3) := by rw [eS1]; exact nu_al hp0.1 hfq
          have a1_xP_qg : g1 (xP q) = g (xP q) := hg1 _ _ hp0.1
          have a1_xP_qr1 : R1 (xP q) 1 = some (xPP q) := by rw [eR1, xR_pl_o (by simp [xX, xKA, xIA, xPA, xLN, xLR, xK, xSO, xHM, xFT, xLT, xN, xP, xPP, xQ]) (by simp [xX, xKA, xIA, xPA, xLN, xLR, xK, xSO, xHM, xFT, xLT, xN, xP, xPP, xQ])]; exact hp0.2.1
          have a1_xN_i : S1 (xN i) = some (0, 0) := by rw [eS1]; exact nu_al hn.1 hfq
          have a1_xN_ig : g1 (xN i) = g (xN i) := hg1 _ _ hn.1
          have a1_xN_ir1 : R1 (xN i) 1 = some (xK k) := by rw [eR1, xR_pl_o (by simp [xX, xKA, xIA, xPA, xLN, xLR, xK, xSO, xHM, xFT, xLT, xN, xP, xPP, xQ]) (by simp [xX, xKA, xIA, xPA, xLN, xLR, xK, xSO, xHM, xFT, xLT, xN, xP, xPP, xQ])]; exact hn.2
          have a1_xK_k : S1 (xK k) = some (0, 1) := by rw [eS1]; exact nu_al hk.1 hfq
          have a1_xK_kg : g1 (xK k) = g (xK k) := hg1 _ _ hk.1
          have a1_xPP_q : S1 (xPP q) = some (6, n) := by rw [eS1]; exact nu_al hp0.2.2 hfq
          have a1_xPP_qg : g1 (xPP q) = g (xPP q) := hg1 _ _ hp0.2.2
          have hh0 : I1 (xK k) 8 = 0 := by rw [eI1, xpl_h]; exact c9
          show W _ _ _ _ _ _ _ _ _ _ _ _ _ _ _ (F0 m 90 ls [])
          refine lv_goto (tgt := 98) hx hb dX5_goThrough_90 (by decide) ?_
          refine lv_aload_n hx hb dX5_goThrough_98 rfl (lv_at hl 1 rfl) ?_
          refine fg1 (v := .int (I1 (xK k) 8)) hx hb ht hown hK hw a1_xK_k a1_xK_kg 8 wf5_193 (by decide) (nh_vi rfl) dX5_goThrough_99 ?_
          rw [hh0]
          refine nh_iret hx hb hr rfl hlocks hw (by first | decide | (simp; done) | (simp; omega) | omega) (by first | decide | (simp; done) | (simp; omega) | omega) dX5_goThrough_102 ?_
          exact Or.inr (Or.inr (Or.inr (Or.inl ⟨c9, c28, c54, c77, rfl, eS1, hg1, eI1, eR1⟩)))
      · refine lv_aload_n hx hb dX5_goThrough_57 rfl (lv_at hl 3 rfl) ?_
        refine lv_aload_n hx hb dX5_goThrough_58 rfl (lv_at hl 4 rfl) ?_
        refine lv_iload hx hb dX5_goThrough_59 (lv_at hl 0 rfl) ?_
        refine lv_iconst (v := 0) hx hb dX5_goThrough_61 (by decide) ?_
        refine kcX3_place (As := [.ref (g (xN i)), .int (xf_freeOn J q k), .int 0]) (rest := []) wm5_200 (cx_place l D cA q n i k c0 hp0 hn hk hfq (xf_freeOn J q k) 0 hc0 hcn hn2 hq0 hq4 (by simp)) hx hb hml ht hown hK hw hp0.1 rfl rfl hl.1 rfl (by simp [Value.category]) ⟨by decide, by decide⟩ ⟨(by first | decide | (simp; done) | (simp; omega) | omega), (by first | decide | (simp; done) | (simp; omega) | omega)⟩ dX5_goThrough_62 (fun v S1 g1 I1 R1 H locs hp hw => ?_)
        obtain ⟨rfl, eS1, hg1, eI1, eR1⟩ := hp
        have a1_xX : S1 xX = some (0, 5) := by rw [eS1]; exact nu_al hX.1 hfq
        have a1_xXg : g1 xX = g xX := hg1 _ _ hX.1
        have a1_xP_q : S1 (xP q) = some (0, 3) := by rw [eS1]; exact nu_al hp0.1 hfq
        have a1_xP_qg : g1 (xP q) = g (xP q) := hg1 _ _ hp0.1
        have a1_xP_qr1 : R1 (xP q) 1 = some (xPP q) := by rw [eR1, xR_pl_o (by simp [xX, xKA, xIA, xPA, xLN, xLR, xK, xSO, xHM, xFT, xLT, xN, xP, xPP, xQ]) (by simp [xX, xKA, xIA, xPA, xLN, xLR, xK, xSO, xHM, xFT, xLT, xN, xP, xPP, xQ])]; exact hp0.2.1
        have a1_xN_i : S1 (xN i) = some (0, 0) := by rw [eS1]; exact nu_al hn.1 hfq
        have a1_xN_ig : g1 (xN i) = g (xN i) := hg1 _ _ hn.1
        have a1_xN_ir1 : R1 (xN i) 1 = some (xK k) := by rw [eR1, xR_pl_o (by simp [xX, xKA, xIA, xPA, xLN, xLR, xK, xSO, xHM, xFT, xLT, xN, xP, xPP, xQ]) (by simp [xX, xKA, xIA, xPA, xLN, xLR, xK, xSO, xHM, xFT, xLT, xN, xP, xPP, xQ])]; exact hn.2
        have a1_xK_k : S1 (xK k) = some (0, 1) := by rw [eS1]; exact nu_al hk.1 hfq
        have a1_xK_kg : g1 (xK k) = g (xK k) := hg1 _ _ hk.1
        have a1_xPP_q : S1 (xPP q) = some (6, n) := by rw [eS1]; exact nu_al hp0.2.2 hfq
        have a1_xPP_qg : g1 (xPP q) = g (xPP q) := hg1 _ _ hp0.2.2
        have hh0 : I1 (xK k) 8 = 0 := by rw [eI1, xpl_h]; exact c9
        show W _ _ _ _ _ _ _ _ _ _ _ _ _ _ _ (F0 m 65 ls [])
        refine lv_aload_n hx hb dX5_goThrough_65 rfl (lv_at hl 1 rfl) ?_
        refine lv_iconst (v := 1) hx hb dX5_goThrough_66 (by decide) ?_
        refine fp1 hx hb ht hown hK hw a1_xK_k a1_xK_kg 8 wf5_193 (by decide) rfl rfl rfl rfl dX5_goThrough_67 (fun H locs J2 eJ2 hw => ?_)
        refine lv_goto (tgt := 98) hx hb dX5_goThrough_70 (by decide) ?_
        refine lv_aload_n hx hb dX5_goThrough_98 rfl (lv_at hl 1 rfl) ?_
        refine fg1 (v := .int 1) hx hb ht hown hK hw a1_xK_k a1_xK_kg 8 wf5_193 (by decide) (by simp [nh_v, im_sk, iu_e, xX, xKA, xIA, xPA, xLN, xLR, xK, xSO, xHM, xFT, xLT, xN, xP, xPP, xQ, eJ2]) dX5_goThrough_99 ?_
        refine nh_iret hx hb hr rfl hlocks hw (by first | decide | (simp; done) | (simp; omega) | omega) (by first | decide | (simp; done) | (simp; omega) | omega) dX5_goThrough_102 ?_
        subst eJ2
        subst eI1
        exact Or.inr (Or.inr (Or.inl ⟨c9, c28, c54, rfl, eS1, hg1, rfl, eR1⟩))
    · refine lv_aload_n hx hb dX5_goThrough_31 rfl (lv_at hl 3 rfl) ?_
      refine lv_aload_n hx hb dX5_goThrough_32 rfl (lv_at hl 4 rfl) ?_
      refine lv_aload_n hx hb dX5_goThrough_33 rfl (lv_at hl 4 rfl) ?_
      refine fg0 (v := .int (J (xN i) 3)) hx hb ht hown hK hw hn.1 rfl 3 wf5_102 (by decide) (nh_vi rfl) dX5_goThrough_34 ?_
      refine lv_iconst (v := 0) hx hb dX5_goThrough_37 (by decide) ?_
      refine kcX3_place (As := [.ref (g (xN i)), .int (J (xN i) 3), .int 0]) (rest := []) wm5_200 (cx_place l D cA q n i k c0 hp0 hn hk hfq (J (xN i) 3) 0 hc0 hcn hn2 hq0 hq4 (by simp)) hx hb hml ht hown hK hw hp0.1 rfl rfl hl.1 rfl (by simp [Value.category]) ⟨by decide, by decide⟩ ⟨(by first | decide | (simp; done) | (simp; omega) | omega), (by first | decide | (simp; done) | (simp; omega) | omega)⟩ dX5_goThrough_38 (fun v S1 g1 I1 R1 H locs hp hw => ?_)
      obtain ⟨rfl, eS1, hg1, eI1, eR1⟩ := hp
      have a1_xX : S1 xX = some (0, 5) := by rw [eS1]; exact nu_al hX.1 hfq
      have a1_xXg : g1 xX = g xX := hg1 _ _ hX.1
      have a1_xP_q : S1 (xP q) = some (0, 3) := by rw [eS1]; exact nu_al hp0.1 hfq
      have a1_xP_qg : g1 (xP q) = g (xP q) := hg1 _ _ hp0.1
      have a1_xP_qr1 : R1 (xP q) 1 = some (xPP q) := by rw [eR1, xR_pl_o (by simp [xX, xKA, xIA, xPA, xLN, xLR, xK, xSO, xHM, xFT, xLT, xN, xP, xPP, xQ]) (by simp [xX, xKA, xIA, xPA, xLN, xLR, xK, xSO, xHM, xFT, xLT, xN, xP, xPP, xQ])]; exact hp0.2.1
      have a1_xN_i : S1 (xN i) = some (0, 0) := by rw [eS1]; exact nu_al hn.1 hfq
      have a1_xN_ig : g1 (xN i) = g (xN i) := hg1 _ _ hn.1
      have a1_xN_ir1 : R1 (xN i) 1 = some (xK k) := by rw [eR1, xR_pl_o (by simp [xX, xKA, xIA, xPA, xLN, xLR, xK, xSO, xHM, xFT, xLT, xN, xP, xPP, xQ]) (by simp [xX, xKA, xIA, xPA, xLN, xLR, xK, xSO, xHM, xFT, xLT, xN, xP, xPP, xQ])]; exact hn.2
      have a1_xK_k : S1 (xK k) = some (0, 1) := by rw [eS1]; exact nu_al hk.1 hfq
      have a1_xK_kg : g1 (xK k) = g (xK k) := hg1 _ _ hk.1
      have a1_xPP_q : S1 (xPP q) = some (6, n) := by rw [eS1]; exact nu_al hp0.2.2 hfq
      have a1_xPP_qg : g1 (xPP q) = g (xPP q) := hg1 _ _ hp0.2.2
      have hh0 : I1 (xK k) 8 = 0 := by rw [eI1, xpl_h]; exact c9
      show W _ _ _ _ _ _ _ _ _ _ _ _ _ _ _ (F0 m 41 ls [])
      refine lv_goto (tgt := 98) hx hb dX5_goThrough_41 (by decide) ?_
      refine lv_aload_n hx hb dX5_goThrough_98 rfl (lv_at hl 1 rfl) ?_
      refine fg1 (v := .int (I1 (xK k) 8)) hx hb ht hown hK hw a1_xK_k a1_xK_kg 8 wf5_193 (by decide) (nh_vi rfl) dX5_goThrough_99 ?_
      rw [hh0]
      refine nh_iret hx hb hr rfl hlocks hw (by first | decide | (simp; done) | (simp; omega) | omega) (by first | decide | (simp; done) | (simp; omega) | omega) dX5_goThrough_102 ?_
      exact Or.inr (Or.inl ⟨c9, c28, rfl, eS1, hg1, eI1, eR1⟩)
  · refine lv_iconst (v := 1) hx hb dX5_goThrough_12 (by decide) ?_
    refine nh_iret hx hb hr rfl hlocks hw (by first | decide | (simp; done) | (simp; omega) | omega) (by first | decide | (simp; done) | (simp; omega) | omega) dX5_goThrough_13 ?_
    exact Or.inl ⟨c9, rfl, rfl, rfl, rfl, rfl⟩
end
