/-! NAMED HEAPS: every cell that a system has bears a name (a kind and two numbers); S: which names there are, and what they are (0, number of its sort of object), or (t + 1, length) for an array of the t-th array type; g: their addresses; I: their ints; R: their references, by name. -/
abbrev nh_N : Type := Nat × Nat × Nat
abbrev nh_C : Type := Nat × Nat
def nu {α : Type} (f : nh_N → α) (n : nh_N) (v : α) : nh_N → α := fun m => if m = n then v else f m
theorem nu_s {α : Type} (f : nh_N → α) (n : nh_N) (v : α) : nu f n v n = v := by simp [nu]
theorem nu_n {α : Type} (f : nh_N → α) {n m : nh_N} (v : α) (h : m ≠ n) : nu f n v m = f m := by simp [nu, h]
def iu (I : nh_N → Nat → Int32) (n : nh_N) (k : Nat) (x : Int32) : nh_N → Nat → Int32 := nu I n (upd (I n) k x)
def ru (R : nh_N → Nat → Option nh_N) (n : nh_N) (k : Nat) (x : Option nh_N) : nh_N → Nat → Option nh_N := nu R n (va_up (R n) k x)
theorem iu_e (I : nh_N → Nat → Int32) (n : nh_N) (k : Nat) (x : Int32) (m : nh_N) (j : Nat) : iu I n k x m j = if m = n ∧ j = k then x else I m j := by
  by_cases h : m = n
  · subst h
    simp [iu, nu, upd]
  · simp [iu, nu, h]
theorem ru_e (R : nh_N → Nat → Option nh_N) (n : nh_N) (k : Nat) (x : Option nh_N) (m : nh_N) (j : Nat) : ru R n k x m j = if m = n ∧ j = k then x else R m j := by
  by_cases h : m = n
  · subst h
    simp [ru, nu, va_up]
  · simp [ru, nu, h]
def nh_v (g : nh_N → Nat) (i : Nat → Int32) (r : Nat → Option nh_N) (b : Bool) (k : Nat) : Value := if b = true then va_rf ((r k).map g) else .int (i k)
theorem nh_vi {g : nh_N → Nat} {i : Nat → Int32} {r : Nat → Option nh_N} {b : Bool} {k : Nat} (hb : b = false) : nh_v g i r b k = .int (i k) := by simp [nh_v, hb]
theorem nh_vr {g : nh_N → Nat} {i : Nat → Int32} {r : Nat → Option nh_N} {b : Bool} {k : Nat} {m : nh_N} (hb : b = true) (hr : r k = some m) : nh_v g i r b k = .ref (g m) := by simp [nh_v, hb, hr, va_rf]
theorem nh_vn {g : nh_N → Nat} {i : Nat → Int32} {r : Nat → Option nh_N} {b : Bool} {k : Nat} (hb : b = true) (hr : r k = none) : nh_v g i r b k = .null := by simp [nh_v, hb, hr, va_rf]
def nh_at (D : va_G) (cl : List vw_C) (sk : Nat → Nat → Bool) (cA : Nat → ClassId) (g : nh_N → Nat) (i : Nat → Int32) (r : Nat → Option nh_N) (c : nh_C) (a : Nat) (H : Heap) : Prop := match c with
  | (0, ci) => ∃ q : vw_C, cl[ci]? = some q ∧ t_OB a (D.1 ci) q.2.2 (D.2 ci) H (fun k => nh_v g i r (sk ci k) k)
  | (1, n) => H[a]? = some (arrV (cA 0) n (fun j => .int (i j)))
  | (2, n) => H[a]? = some (arrV (cA 1) n (fun j => .int (i j)))
  | (t + 3, n) => H[a]? = some (arrV (cA (t + 2)) n (fun j => va_rf ((r j).map g)))
theorem nh_at.kept {D : va_G} {cl : List vw_C} {sk : Nat → Nat → Bool} {cA : Nat → ClassId} {g : nh_N → Nat} {i : Nat → Int32} {r : Nat → Option nh_N} {c : nh_C} {a : Nat} {H H1 : Heap} (h : nh_at D cl sk cA g i r c a H) (hq : H1[a]? = H[a]?) : nh_at D cl sk cA g i r c a H1 := by
  match c, h with
  | (0, ci), h =>
    obtain ⟨q, h1, h2⟩ := h
    exact ⟨q, h1, h2.kept hq⟩
  | (1, n), h => exact hq.trans h
  | (2, n), h => exact hq.trans h
  | (t + 3, n), h => exact hq.trans h
theorem nh_at.lt {D : va_G} {cl : List vw_C} {sk : Nat → Nat → Bool} {cA : Nat → ClassId} {g : nh_N → Nat} {i : Nat → Int32} {r : Nat → Option nh_N} {c : nh_C} {a : Nat} {H : Heap} (h : nh_at D cl sk cA g i r c a H) : a < H.size := by
  match c, h with
  | (0, ci), h =>
    obtain ⟨q, h1, cell, h2, -⟩ := h
    exact (Array.getElem?_eq_some_iff.mp h2).1
  | (1, n), h => exact (Array.getElem?_eq_some_iff.mp h).1
  | (2, n), h => exact (Array.getElem?_eq_some_iff.mp h).1
  | (t + 3, n), h => exact (Array.getElem?_eq_some_iff.mp h).1
theorem nh_map {g g' : nh_N → Nat} {x : Option nh_N} (h : ∀ m, x = some m → g' m = g m) : x.map g' = x.map g := by
  cases x with
  | none => rfl
  | some m => simp [h m rfl]
theorem nh_at.moved {D : va_G} {cl : List vw_C} {sk : Nat → Nat → Bool} {cA : Nat → ClassId} {g g' : nh_N → Nat} {i : Nat → Int32} {r : Nat → Option nh_N} {c : nh_C} {a : Nat} {H : Heap} (h : nh_at D cl sk cA g i r c a H) (hg : ∀ k m, r k = some m → g' m = g m) : nh_at D cl sk cA g' i r c a H := by
  have hm : ∀ k, (r k).map g' = (r k).map g := fun k => nh_map (hg k)
  match c, h with
  | (0, ci), h =>
    obtain ⟨q, h1, h2⟩ := h
    exact ⟨q, h1, h2.to (fun k _ => by simp [nh_v, hm])⟩
  | (1, n), h => exact h
  | (2, n), h => exact h
  | (t + 3, n), h =>
    show H[a]? = some (arrV (cA (t + 2)) n (fun j => va_rf ((r j).map g')))
    simp only [hm]
    exact h
/-- the heap holds the named cells, at different addresses; every reference is to a cell that is there; what is outside A is as it was -/
def nh_P (D : va_G) (cl : List vw_C) (sk : Nat → Nat → Bool) (cA : Nat → ClassId) (S : nh_N → Option nh_C) (g : nh_N → Nat) (I : nh_N → Nat → Int32) (R : nh_N → Nat → Option nh_N) (H : Heap) : Prop :=
  (∀ n c, S n = some c → nh_at D cl sk cA g (I n) (R n) c (g n) H) ∧ (∀ n n' c c', S n = some c → S n' = some c' → g n = g n' → n = n') ∧ ∀ n c k m, S n = some c → R n k = some m → ∃ c', S m = some c'
def nh_S (D : va_G) (cl : List vw_C) (sk : Nat → Nat → Bool) (cA : Nat → ClassId) (A : Nat → Prop) (H0 : Heap) (S : nh_N → Option nh_C) (g : nh_N → Nat) (I : nh_N → Nat → Int32) (R : nh_N → Nat → Option nh_N) (H : Heap) (locs : List Loc) : Prop :=
  nh_P D cl sk cA S g I R H ∧ (∀ n c, S n = some c → A (g n)) ∧ va_S A H0 H locs ∧ ∀ q, H0.size ≤ q → A q
theorem nh_S.set {D : va_G} {cl : List vw_C} {sk : Nat → Nat → Bool} {cA : Nat → ClassId} {A : Nat → Prop} {H0 H H1 : Heap} {S : nh_N → Option nh_C} {g : nh_N → Nat} {I : nh_N → Nat → Int32} {R : nh_N → Nat → Option nh_N} {locs : List Loc} {n : nh_N} {c : nh_C} {k : Nat} {i : Nat → Int32} {r : Nat → Option nh_N}
    (h : nh_S D cl sk cA A H0 S g I R H locs) (hn : S n = some c) (hr : ∀ j m, r j = some m → ∃ c', S m = some c') (z : H1.size = H.size) (oq : ∀ q : Nat, q ≠ g n → H1[q]? = H[q]?) (hat : nh_at D cl sk cA g i r c (g n) H1) : nh_S D cl sk cA A H0 S g (nu I n i) (nu R n r) H1 (locs ++ [⟨g n, k⟩]) := by
  obtain ⟨⟨h1, h2, h3⟩, h4, h5, h6⟩ := h
  refine ⟨⟨fun m d hm => ?_, h2, fun m d j q hm hq => ?_⟩, h4, h5.put z oq (h4 n c hn), h6⟩
  · by_cases e : m = n
    · subst e
      rw [nu_s, nu_s]
      cases hn.symm.trans hm
      exact hat
    · rw [nu_n _ _ e, nu_n _ _ e]
      exact (h1 m d hm).kept (oq (g m) (fun q => e (h2 m n d c hm hn q)))
  · by_cases e : m = n
    · subst e
      rw [nu_s] at hq
      exact hr j q hq
    · rw [nu_n _ _ e] at hq
      exact h3 m d j q hm hq
theorem nh_S.new {D : va_G} {cl : List vw_C} {sk : Nat → Nat → Bool} {cA : Nat → ClassId} {A : Nat → Prop} {H0 H H1 : Heap} {S : nh_N → Option nh_C} {g : nh_N → Nat} {I : nh_N → Nat → Int32} {R : nh_N → Nat → Option nh_N} {locs : List Loc} (n : nh_N) {c : nh_C}
    (h : nh_S D cl sk cA A H0 S g I R H locs) (hn : S n = none) (z : H1.size = H.size + 1) (oq : ∀ q : Nat, q < H.size → H1[q]? = H[q]?) (hat : ∀ g', nh_at D cl sk cA g' (fun _ => 0) (fun _ => none) c H.size H1) : nh_S D cl sk cA A H0 (nu S n (some c)) (nu g n H.size) (nu I n (fun _ => 0)) (nu R n (fun _ => none)) H1 locs := by
  obtain ⟨⟨h1, h2, h3⟩, h4, h5, h6⟩ := h
  have hne : ∀ m d, S m = some d → m ≠ n := fun m d hm q => by rw [q, hn] at hm; cases hm
  refine ⟨⟨fun m d hm => ?_, fun m m' d d' hm hm' e => ?_, fun m d j q hm hq => ?_⟩, fun m d hm => ?_, ⟨Nat.le_trans h5.1 (by omega), fun q g1 g2 => (oq q (Nat.lt_of_lt_of_le g1 h5.1)).trans (h5.2.1 q g1 g2), h5.2.2⟩, h6⟩
  · by_cases e : m = n
    · subst e
      rw [nu_s] at hm
      cases hm
      rw [nu_s, nu_s, nu_s]
      exact hat _
    · rw [nu_n _ _ e] at hm
      rw [nu_n _ _ e, nu_n _ _ e, nu_n _ _ e]
      have hm1 := h1 m d hm
      exact (hm1.kept (oq _ hm1.lt)).moved (fun k q hq => by
        obtain ⟨c', hc'⟩ := h3 m d k q hm hq
        exact nu_n _ _ (hne q c' hc'))
  · by_cases e1 : m = n
    · by_cases e2 : m' = n
      · rw [e1, e2]
      · rw [nu_n _ _ e2] at hm'
        subst e1
        rw [nu_s, nu_n _ _ e2] at e
        have := (h1 m' d' hm').lt
        omega
    · rw [nu_n _ _ e1] at hm
      by_cases e2 : m' = n
      · subst e2
        rw [nu_s, nu_n _ _ e1] at e
        have := (h1 m d hm).lt
        omega
      · rw [nu_n _ _ e2] at hm'
        rw [nu_n _ _ e1, nu_n _ _ e2] at e
        exact h2 m m' d d' hm hm' e
  · by_cases e : m = n
    · subst e
      rw [nu_s] at hq
      cases hq
    · rw [nu_n _ _ e] at hm hq
      obtain ⟨c', hc'⟩ := h3 m d j q hm hq
      exact ⟨c', by rw [nu_n _ _ (hne q c' hc')]; exact hc'⟩
  · by_cases e : m = n
    · subst e
      rw [nu_s]
      exact h6 _ h5.1
    · rw [nu_n _ _ e] at hm
      rw [nu_n _ _ e]
      exact h4 m d hm
def nh_A (S : nh_N → Option nh_C) (g : nh_N → Nat) (sz : Nat) : Nat → Prop := fun q => (∃ n c, S n = some c ∧ g n = q) ∨ sz ≤ q
section NHR
variable {p : Program} {l : Launch} {e : Env} {Rm : Room} {s : State} {m : MethodId} {args : Array Value} {below : List Frame} {meth : Method} {c : Code} {H : Heap} {locs : List Loc} {cells slots : Nat} {Q : State → Prop}
variable {cc : ByteArray} {pc : Nat} {ls : Array Slot} {rest : List Value} {D : va_G} {cl : List vw_C} {sk : Nat → Nat → Bool} {cA : Nat → ClassId} {A : Nat → Prop} {a : Nat} {tys : List (ClassId × FieldType)} {S : nh_N → Option nh_C} {g : nh_N → Nat} {I : nh_N → Nat → Int32} {R : nh_N → Nat → Option nh_N} {H0 : Heap} {n : nh_N}
theorem nm_get (hexec : p.tables.exec = Jvm.exec) (hb : c.code = cc) {own ref C : String} {T : u_T} {N ci index : Nat} {Ts : List Cond} (hts : ∀ w ∈ Ts, w.before args s = true) (hin : ∀ w ∈ u_ws C T N, w ∈ Ts) (hown : s.vm.findClass own = some m.cls) (hK : va_K D cl tys s) (hw : nh_S D cl sk cA A H0 S g I R H locs) (hn : S n = some (0, ci)) (ha : g n = a) (hc : cl[ci]? = some (C, T, N)) (k : Nat) (hk : k < N) (hlink : (Cond.fieldLink own index ref (T k).2.1 (T k).2.2.1).before args s = true) (hsame : ∀ x, s.fieldFound? (T k).1 (T k).2.1 (T k).2.2.1 = some x → s.fieldFound? ref (T k).2.1 (T k).2.2.1 = some x) {v : Value} (hv : nh_v g (I n) (R n) (sk ci k) k = v) (hdg : decode cc pc = .ok (.getfield index, 3))
    (kk : W p l e Rm s m args below meth c H locs cells slots Q (F0 m (pc + 3) ls (v :: rest))) : W p l e Rm s m args below meth c H locs cells slots Q (F0 m pc ls (.ref a :: rest)) := by
  subst ha
  obtain ⟨r, h1, cell, q1, q2, q3, q4⟩ := hw.1.1 n _ hn
  have hr : r = (C, T, N) := Option.some.inj (h1.symm.trans hc)
  subst hr
  obtain ⟨hS, hfc, kC, hkC, hkind⟩ := hK.1 ci _ hc
  obtain ⟨cf, kf, fi, f, hi, hsl⟩ := hS k hk
  refine W.getf hexec hb hown hlink (hsame _ hi) (u_facts hfc hkC (u_lays hts hin hk) hi).1 q1 (by rw [q3]; exact fun h => by cases h) (v := v) ?_ rfl rfl hdg kk
  rw [hsl, q4 k hk, ← hv]
theorem nm_apart {own C : String} {T : u_T} {N ci : Nat} {Ts : List Cond} (hts : ∀ w ∈ Ts, w.before args s = true) (hin : ∀ w ∈ u_ws C T N, w ∈ Ts) (ty : Nat → FieldType) (hty : ∀ k, k < N → parseFieldDescriptor (T k).2.2.1 = some (ty k)) (hnm : ∀ a, a < N → ∀ b, b < N → a ≠ b → (T a).2.1 ≠ (T b).2.1) (hK : va_K D cl tys s) (hc : cl[ci]? = some (C, T, N)) : ∀ x y, x < N → y < N → x ≠ y → (D.2 ci) x ≠ (D.2 ci) y := va_apart (own := own) hts hin ty hty hnm hK hc
theorem nm_up {g : nh_N → Nat} {i : Nat → Int32} {r : Nat → Option nh_N} {b : Nat → Bool} {k : Nat} {x : Int32} (hb : b k = false) (j : Nat) : updV (fun k => nh_v g i r (b k) k) k (.int x) j = nh_v g (upd i k x) r (b j) j := by
  by_cases h : j = k
  · subst h
    simp [updV, upd, nh_v, hb]
  · simp [updV, upd, nh_v, h]
theorem nm_upr {g : nh_N → Nat} {i : Nat → Int32} {r : Nat → Option nh_N} {b : Nat → Bool} {k : Nat} {x : Option nh_N} (hb : b k = true) (j : Nat) : updV (fun k => nh_v g i r (b k) k) k (va_rf (x.map g)) j = nh_v g i (va_up r k x) (b j) j := by
  by_cases h : j = k
  · subst h
    simp [updV, va_up, nh_v, hb]
  · simp [updV, va_up, nh_v, h]
theorem nm_self {α : Type} (f : nh_N → α) (n : nh_N) : nu f n (f n) = f := by
  funext q
  by_cases h : q = n
  · subst h; simp [nu]
  · simp [nu, h]
/-- an int into a field that is not final -/
theorem nm_put (hexec : p.tables.exec = Jvm.exec) (hb : c.code = cc) {own ref C : String} {T : u_T} {N ci index : Nat} {Ts : List Cond} (hts : ∀ w ∈ Ts, w.before args s = true) (hin : ∀ w ∈ u_ws C T N, w ∈ Ts) (ty0 : Nat → FieldType) (hty : ∀ k, k < N → parseFieldDescriptor (T k).2.2.1 = some (ty0 k)) (hnm : ∀ a, a < N → ∀ b, b < N → a ≠ b → (T a).2.1 ≠ (T b).2.1) (hown : s.vm.findClass own = some m.cls) (hK : va_K D cl tys s) (hw : nh_S D cl sk cA A H0 S g I R H locs) (hn : S n = some (0, ci)) (ha : g n = a) (hc : cl[ci]? = some (C, T, N)) (k : Nat) (hk : k < N) (hlink : (Cond.fieldLink own index ref (T k).2.1 (T k).2.2.1).before args s = true) (hsame : ∀ x, s.fieldFound? (T k).1 (T k).2.1 (T k).2.2.1 = some x → s.fieldFound? ref (T k).2.1 (T k).2.2.1 = some x) (hfin : (T k).2.2.2 = false) {ty : FieldType} {x : Int32} (hd : parseFieldDescriptor (T k).2.2.1 = some ty) (hnr : narrow ty (.int x) = .int x) (hfit : fits ty (.int x) = true) (hsk : sk ci k = false)
    (hdg : decode cc pc = .ok (.putfield index, 3)) (kk : ∀ (H1 : Heap) (locs1 : List Loc), nh_S D cl sk cA A H0 S g (iu I n k x) R H1 locs1 → W p l e Rm s m args below meth c H1 locs1 cells slots Q (F0 m (pc + 3) ls rest)) : W p l e Rm s m args below meth c H locs cells slots Q (F0 m pc ls (.int x :: .ref a :: rest)) := by
  subst ha
  have hap := nm_apart (own := own) hts hin ty0 hty hnm hK hc
  obtain ⟨r, h1, cell, q1, q2, q3, q4⟩ := hw.1.1 n _ hn
  have hr : r = (C, T, N) := Option.some.inj (h1.symm.trans hc)
  subst hr
  obtain ⟨hS, hfc, kC, hkC, hkind⟩ := hK.1 ci _ hc
  obtain ⟨cf, kf, fi, f, hi, hsl⟩ := hS k hk
  have hlay := hts _ (hin _ (u_in_lay hk))
  unfold u_lay at hlay
  rw [if_neg (by rw [hfin]; decide)] at hlay
  have hst := (u_facts hfc hkC (u_lays hts hin hk) hi).1
  have h6 := u_store hfc hkC hkind hlay hi hd hnr hfit
  refine W.putK hexec hb (f := f) ⟨hown, hlink, ⟨_, _, _, hsame _ hi⟩, hst⟩ (by rw [q2]; exact h6) q1 q3 (by rw [hsl]; exact k2_hasslot (q4 k hk)) rfl rfl hdg fun H' e1 e2 e3 => ?_
  rw [hsl] at e1 ⊢
  have h9 := hw.set (k := D.2 ci k) (i := upd (I n) k x) (r := R n) hn (fun j q hq => hw.1.2.2 n _ j q hn hq) e2 e3 ⟨_, hc, t_OB.to (V := updV (fun k => nh_v g (I n) (R n) (sk ci k) k) k (.int x)) ⟨_, e1, q2, q3, t_set q4 hap hk _⟩ (fun j _ => nm_up (b := sk ci) hsk j)⟩
  rw [nm_self] at h9
  exact kk H' _ h9
/-- a reference, by name, into a field that is not final -/
theorem nm_putR (hexec : p.tables.exec = Jvm.exec) (hb : c.code = cc) {own ref C : String} {T : u_T} {N ci index : Nat} {Ts : List Cond} (hts : ∀ w ∈ Ts, w.before args s = true) (hin : ∀ w ∈ u_ws C T N, w ∈ Ts) (ty0 : Nat → FieldType) (hty : ∀ k, k < N → parseFieldDescriptor (T k).2.2.1 = some (ty0 k)) (hnm : ∀ a, a < N → ∀ b, b < N → a ≠ b → (T a).2.1 ≠ (T b).2.1) (hown : s.vm.findClass own = some m.cls) (hK : va_K D cl tys s) (hw : nh_S D cl sk cA A H0 S g I R H locs) (hn : S n = some (0, ci)) (ha : g n = a) (hc : cl[ci]? = some (C, T, N)) (k : Nat) (hk : k < N) (hlink : (Cond.fieldLink own index ref (T k).2.1 (T k).2.2.1).before args s = true) (hsame : ∀ x, s.fieldFound? (T k).1 (T k).2.1 (T k).2.2.1 = some x → s.fieldFound? ref (T k).2.1 (T k).2.2.1 = some x) (hfin : (T k).2.2.2 = false) {ty : FieldType} {v : Value} (q : Option nh_N) (hq : ∀ m, q = some m → ∃ c', S m = some c') (hv : va_rf (q.map g) = v) (hd : parseFieldDescriptor (T k).2.2.1 = some ty) (hnr : narrow ty v = v) (hfit : fits ty v = true) (hsk : sk ci k = true)
    (hdg : decode cc pc = .ok (.putfield index, 3)) (kk : ∀ (H1 : Heap) (locs1 : List Loc), nh_S D cl sk cA A H0 S g I (ru R n k q) H1 locs1 → W p l e Rm s m args below meth c H1 locs1 cells slots Q (F0 m (pc + 3) ls rest)) : W p l e Rm s m args below meth c H locs cells slots Q (F0 m pc ls (v :: .ref a :: rest)) := by
  subst ha
  subst hv
  have hap := nm_apart (own := own) hts hin ty0 hty hnm hK hc
  obtain ⟨r, h1, cell, q1, q2, q3, q4⟩ := hw.1.1 n _ hn
  have hr : r = (C, T, N) := Option.some.inj (h1.symm.trans hc)
  subst hr
  obtain ⟨hS, hfc, kC, hkC, hkind⟩ := hK.1 ci _ hc
  obtain ⟨cf, kf, fi, f, hi, hsl⟩ := hS k hk
  have hlay := hts _ (hin _ (u_in_lay hk))
  unfold u_lay at hlay
  rw [if_neg (by rw [hfin]; decide)] at hlay
  have hst := (u_facts hfc hkC (u_lays hts hin hk) hi).1
  have h6 := u_store hfc hkC hkind hlay hi hd hnr hfit
  refine W.putK hexec hb (f := f) ⟨hown, hlink, ⟨_, _, _, hsame _ hi⟩, hst⟩ (by rw [q2]; exact h6) q1 q3 (by rw [hsl]; exact k2_hasslot (q4 k hk)) rfl rfl hdg fun H' e1 e2 e3 => ?_
  rw [hsl] at e1 ⊢
  have h9 := hw.set (k := D.2 ci k) (i := I n) (r := va_up (R n) k q) hn (fun j x hx => by
    by_cases h : j = k
    · subst h; rw [va_up_self] at hx; exact hq x hx
    · rw [va_up_ne _ _ h] at hx; exact hw.1.2.2 n _ j x hn hx) e2 e3 ⟨_, hc, t_OB.to (V := updV (fun k => nh_v g (I n) (R n) (sk ci k) k) k (va_rf (q.map g))) ⟨_, e1, q2, q3, t_set q4 hap hk _⟩ (fun j _ => nm_upr (b := sk ci) hsk j)⟩
  rw [nm_self] at h9
  exact kk H' _ h9
/-- an int into a final field, in the constructor -/
theorem nm_putF (hexec : p.tables.exec = Jvm.exec) (hb : c.code = cc) {own ref C : String} {T : u_T} {N ci index : Nat} {Ts : List Cond} (hts : ∀ w ∈ Ts, w.before args s = true) (hin : ∀ w ∈ u_ws C T N, w ∈ Ts) (ty0 : Nat → FieldType) (hty : ∀ k, k < N → parseFieldDescriptor (T k).2.2.1 = some (ty0 k)) (hnm : ∀ a, a < N → ∀ b, b < N → a ≠ b → (T a).2.1 ≠ (T b).2.1) (hown : s.vm.findClass own = some m.cls) (hK : va_K D cl tys s) (hw : nh_S D cl sk cA A H0 S g I R H locs) (hn : S n = some (0, ci)) (ha : g n = a) (hc : cl[ci]? = some (C, T, N)) (k : Nat) (hk : k < N) (hlink : (Cond.fieldLink own index ref (T k).2.1 (T k).2.2.1).before args s = true) (hsame : ∀ x, s.fieldFound? (T k).1 (T k).2.1 (T k).2.2.1 = some x → s.fieldFound? ref (T k).2.1 (T k).2.2.1 = some x) (hfin : (T k).2.2.2 = true) (hin2 : meth.name = "<init>") (hdecl : (T k).1 = own) {ty : FieldType} {x : Int32} (hd : parseFieldDescriptor (T k).2.2.1 = some ty) (hnr : narrow ty (.int x) = .int x) (hfit : fits ty (.int x) = true) (hsk : sk ci k = false)
    (hdg : decode cc pc = .ok (.putfield index, 3)) (kk : ∀ (H1 : Heap) (locs1 : List Loc), nh_S D cl sk cA A H0 S g (iu I n k x) R H1 locs1 → W p l e Rm s m args below meth c H1 locs1 cells slots Q (F0 m (pc + 3) ls rest)) : W p l e Rm s m args below meth c H locs cells slots Q (F0 m pc ls (.int x :: .ref a :: rest)) := by
  subst ha
  have hap := nm_apart (own := own) hts hin ty0 hty hnm hK hc
  obtain ⟨r, h1, cell, q1, q2, q3, q4⟩ := hw.1.1 n _ hn
  have hr : r = (C, T, N) := Option.some.inj (h1.symm.trans hc)
  subst hr
  obtain ⟨hS, hfc, kC, hkC, hkind⟩ := hK.1 ci _ hc
  obtain ⟨cf, kf, fi, f, hi, hsl⟩ := hS k hk
  have hlay := hts _ (hin _ (u_in_lay hk))
  unfold u_lay at hlay
  rw [if_pos hfin] at hlay
  have hst := (u_facts hfc hkC (u_lays hts hin hk) hi).1
  have hcf : m.cls = cf := by
    obtain ⟨_, _, c', _, _, _, -, -, hf', -, -, -, hown2, -⟩ := Cond.laysFinal_spec hlay
    have e1 : c' = cf := by have := hi.symm.trans hf'; simp at this; exact this.1.symm
    rw [hdecl] at hown2
    rw [← e1]; exact Option.some.inj (hown.symm.trans hown2)
  have h6 := u_fits hfc hkC hkind (Or.inr hlay) hi hd hnr hfit
  refine W.putFinK hexec hb hown hlink (hsame _ hi) hst hcf hin2 (by rw [q2]; exact h6) q1 q3 (by rw [hsl]; exact k2_hasslot (q4 k hk)) rfl rfl hdg fun H' e1 e2 e3 => ?_
  rw [hsl] at e1 ⊢
  have h9 := hw.set (k := D.2 ci k) (i := upd (I n) k x) (r := R n) hn (fun j q hq => hw.1.2.2 n _ j q hn hq) e2 e3 ⟨_, hc, t_OB.to (V := updV (fun k => nh_v g (I n) (R n) (sk ci k) k) k (.int x)) ⟨_, e1, q2, q3, t_set q4 hap hk _⟩ (fun j _ => nm_up (b := sk ci) hsk j)⟩
  rw [nm_self] at h9
  exact kk H' _ h9
theorem nm_putFR (hexec : p.tables.exec = Jvm.exec) (hb : c.code = cc) {own ref C : String} {T : u_T} {N ci index : Nat} {Ts : List Cond} (hts : ∀ w ∈ Ts, w.before args s = true) (hin : ∀ w ∈ u_ws C T N, w ∈ Ts) (ty0 : Nat → FieldType) (hty : ∀ k, k < N → parseFieldDescriptor (T k).2.2.1 = some (ty0 k)) (hnm : ∀ a, a < N → ∀ b, b < N → a ≠ b → (T a).2.1 ≠ (T b).2.1) (hown : s.vm.findClass own = some m.cls) (hK : va_K D cl tys s) (hw : nh_S D cl sk cA A H0 S g I R H locs) (hn : S n = some (0, ci)) (ha : g n = a) (hc : cl[ci]? = some (C, T, N)) (k : Nat) (hk : k < N) (hlink : (Cond.fieldLink own index ref (T k).2.1 (T k).2.2.1).before args s = true) (hsame : ∀ x, s.fieldFound? (T k).1 (T k).2.1 (T k).2.2.1 = some x → s.fieldFound? ref (T k).2.1 (T k).2.2.1 = some x) (hfin : (T k).2.2.2 = true) (hin2 : meth.name = "<init>") (hdecl : (T k).1 = own) {ty : FieldType} {v : Value} (q : Option nh_N) (hq : ∀ m, q = some m → ∃ c', S m = some c') (hv : va_rf (q.map g) = v) (hd : parseFieldDescriptor (T k).2.2.1 = some ty) (hnr : narrow ty v = v) (hfit : fits ty v = true) (hsk : sk ci k = true)
    (hdg : decode cc pc = .ok (.putfield index, 3)) (kk : ∀ (H1 : Heap) (locs1 : List Loc), nh_S D cl sk cA A H0 S g I (ru R n k q) H1 locs1 → W p l e Rm s m args below meth c H1 locs1 cells slots Q (F0 m (pc + 3) ls rest)) : W p l e Rm s m args below meth c H locs cells slots Q (F0 m pc ls (v :: .ref a :: rest)) := by
  subst ha
  subst hv
  have hap := nm_apart (own := own) hts hin ty0 hty hnm hK hc
  obtain ⟨r, h1, cell, q1, q2, q3, q4⟩ := hw.1.1 n _ hn
  have hr : r = (C, T, N) := Option.some.inj (h1.symm.trans hc)
  subst hr
  obtain ⟨hS, hfc, kC, hkC, hkind⟩ := hK.1 ci _ hc
  obtain ⟨cf, kf, fi, f, hi, hsl⟩ := hS k hk
  have hlay := hts _ (hin _ (u_in_lay hk))
  unfold u_lay at hlay
  rw [if_pos hfin] at hlay
  have hst := (u_facts hfc hkC (u_lays hts hin hk) hi).1
  have hcf : m.cls = cf := by
    obtain ⟨_, _, c', _, _, _, -, -, hf', -, -, -, hown2, -⟩ := Cond.laysFinal_spec hlay
    have e1 : c' = cf := by have := hi.symm.trans hf'; simp at this; exact this.1.symm
    rw [hdecl] at hown2
    rw [← e1]; exact Option.some.inj (hown.symm.trans hown2)
  have h6 := u_fits hfc hkC hkind (Or.inr hlay) hi hd hnr hfit
  refine W.putFinK hexec hb hown hlink (hsame _ hi) hst hcf hin2 (by rw [q2]; exact h6) q1 q3 (by rw [hsl]; exact k2_hasslot (q4 k hk)) rfl rfl hdg fun H' e1 e2 e3 => ?_
  rw [hsl] at e1 ⊢
  have h9 := hw.set (k := D.2 ci k) (i := I n) (r := va_up (R n) k q) hn (fun j x hx => by
    by_cases h : j = k
    · subst h; rw [va_up_self] at hx; exact hq x hx
    · rw [va_up_ne _ _ h] at hx; exact hw.1.2.2 n _ j x hn hx) e2 e3 ⟨_, hc, t_OB.to (V := updV (fun k => nh_v g (I n) (R n) (sk ci k) k) k (va_rf (q.map g))) ⟨_, e1, q2, q3, t_set q4 hap hk _⟩ (fun j _ => nm_upr (b := sk ci) hsk j)⟩
  rw [nm_self] at h9
  exact kk H' _ h9
theorem nm_iald (hexec : p.tables.exec = Jvm.exec) (hb : c.code = cc) (hK : va_K D cl tys s) (hw : nh_S D cl sk cA A H0 S g I R H locs) {N : Nat} (hn : S n = some (1, N)) (ha : g n = a) (ht : tys[0]? = some (cA 0, .int)) {i : Int32} (hin : vp_in i N) (hdg : decode cc pc = .ok (.iaload, 1))
    (kk : W p l e Rm s m args below meth c H locs cells slots Q (F0 m (pc + 1) ls (.int (I n i.toNatClampNeg) :: rest))) : W p l e Rm s m args below meth c H locs cells slots Q (F0 m pc ls (.int i :: .ref a :: rest)) := by
  subst ha
  have hlt : i.toNatClampNeg < N := Nat.not_le.mp fun q => hin (Or.inr q)
  exact W.iald (v := .int (I n i.toNatClampNeg)) hexec hb (hw.1.1 n _ hn) ((hK.2 0 _ ht).1 N (fun j => .int (I n j))) (fun q => by cases q) (by show ¬ (i < 0 ∨ (arrV _ _ _).slots.size ≤ _); rw [arrV_size]; exact hin) (by show (arrV _ _ _).slots[_]? = _; rw [arrV_read _ _ hlt]) rfl rfl hdg kk
theorem nm_zald (hexec : p.tables.exec = Jvm.exec) (hb : c.code = cc) (hK : va_K D cl tys s) (hw : nh_S D cl sk cA A H0 S g I R H locs) {N : Nat} (hn : S n = some (2, N)) (ha : g n = a) (ht : tys[1]? = some (cA 1, .boolean)) {i : Int32} (hin : vp_in i N) (hdg : decode cc pc = .ok (.baload, 1))
    (kk : W p l e Rm s m args below meth c H locs cells slots Q (F0 m (pc + 1) ls (.int (I n i.toNatClampNeg) :: rest))) : W p l e Rm s m args below meth c H locs cells slots Q (F0 m pc ls (.int i :: .ref a :: rest)) := by
  subst ha
  have hlt : i.toNatClampNeg < N := Nat.not_le.mp fun q => hin (Or.inr q)
  exact W.zald (v := .int (I n i.toNatClampNeg)) hexec hb (hw.1.1 n _ hn) ((hK.2 1 _ ht).1 N (fun j => .int (I n j))) (fun q => by cases q) (by show ¬ (i < 0 ∨ (arrV _ _ _).slots.size ≤ _); rw [arrV_size]; exact hin) (by show (arrV _ _ _).slots[_]? = _; rw [arrV_read _ _ hlt]) rfl rfl hdg kk
theorem nm_aald (hexec : p.tables.exec = Jvm.exec) (hb : c.code = cc) (hK : va_K D cl tys s) (hw : nh_S D cl sk cA A H0 S g I R H locs) {t N : Nat} {C : String} (hn : S n = some (t + 3, N)) (ha : g n = a) (ht : tys[t + 2]? = some (cA (t + 2), .object C)) {i : Int32} (hin : vp_in i N) {v : Value} (hv : va_rf ((R n i.toNatClampNeg).map g) = v) (hdg : decode cc pc = .ok (.aaload, 1))
    (kk : W p l e Rm s m args below meth c H locs cells slots Q (F0 m (pc + 1) ls (v :: rest))) : W p l e Rm s m args below meth c H locs cells slots Q (F0 m pc ls (.int i :: .ref a :: rest)) := by
  subst ha
  subst hv
  have hlt : i.toNatClampNeg < N := Nat.not_le.mp fun q => hin (Or.inr q)
  exact W.aald (v := va_rf ((R n i.toNatClampNeg).map g)) (ty := .object C) hexec hb (hw.1.1 n _ hn) ((hK.2 (t + 2) _ ht).1 N (fun j => va_rf ((R n j).map g))) rfl (fun q => by cases q) (by show ¬ (i < 0 ∨ (arrV _ _ _).slots.size ≤ _); rw [arrV_size]; exact hin) (by show (arrV _ _ _).slots[_]? = _; rw [arrV_read _ _ hlt]) rfl rfl hdg kk
theorem nm_alenI (hexec : p.tables.exec = Jvm.exec) (hb : c.code = cc) (hK : va_K D cl tys s) (hw : nh_S D cl sk cA A H0 S g I R H locs) {N : Nat} (hn : S n = some (1, N)) (ha : g n = a) (ht : tys[0]? = some (cA 0, .int)) {v : Int32} (hv : Int32.ofNat N = v) (hdg : decode cc pc = .ok (.arraylength, 1))
    (kk : W p l e Rm s m args below meth c H locs cells slots Q (F0 m (pc + 1) ls (.int v :: rest))) : W p l e Rm s m args below meth c H locs cells slots Q (F0 m pc ls (.ref a :: rest)) := by
  subst ha
  subst hv
  exact W.alen (n := Int32.ofNat N) hexec hb (hw.1.1 n _ hn) ((hK.2 0 _ ht).1 N (fun j => .int (I n j))) (by rw [arrV_size] <;> rfl) rfl rfl hdg kk
theorem nm_alenR (hexec : p.tables.exec = Jvm.exec) (hb : c.code = cc) (hK : va_K D cl tys s) (hw : nh_S D cl sk cA A H0 S g I R H locs) {t N : Nat} {ty : FieldType} (hn : S n = some (t + 3, N)) (ha : g n = a) (ht : tys[t + 2]? = some (cA (t + 2), ty)) {v : Int32} (hv : Int32.ofNat N = v) (hdg : decode cc pc = .ok (.arraylength, 1))
    (kk : W p l e Rm s m args below meth c H locs cells slots Q (F0 m (pc + 1) ls (.int v :: rest))) : W p l e Rm s m args below meth c H locs cells slots Q (F0 m pc ls (.ref a :: rest)) := by
  subst ha
  subst hv
  exact W.alen (n := Int32.ofNat N) hexec hb (hw.1.1 n _ hn) ((hK.2 (t + 2) _ ht).1 N (fun j => va_rf ((R n j).map g))) (by rw [arrV_size] <;> rfl) rfl rfl hdg kk
theorem nm_iast (hexec : p.tables.exec = Jvm.exec) (hb : c.code = cc) (hK : va_K D cl tys s) (hw : nh_S D cl sk cA A H0 S g I R H locs) {N : Nat} (hn : S n = some (1, N)) (ha : g n = a) (ht : tys[0]? = some (cA 0, .int)) {i x : Int32} (hin : vp_in i N) (hdg : decode cc pc = .ok (.iastore, 1))
    (kk : ∀ (H1 : Heap) (locs1 : List Loc), nh_S D cl sk cA A H0 S g (iu I n i.toNatClampNeg x) R H1 locs1 → W p l e Rm s m args below meth c H1 locs1 cells slots Q (F0 m (pc + 1) ls rest)) : W p l e Rm s m args below meth c H locs cells slots Q (F0 m pc ls (.int x :: .int i :: .ref a :: rest)) := by
  subst ha
  refine W.iast hexec hb (hw.1.1 n _ hn) ((hK.2 0 _ ht).1 N (fun j => .int (I n j))) (fun q => by cases q) (by show ¬ (i < 0 ∨ (arrV _ _ _).slots.size ≤ _); rw [arrV_size]; exact hin) rfl rfl hdg fun H1 e1 z oq => ?_
  have h9 := hw.set (k := i.toNatClampNeg) (i := upd (I n) i.toNatClampNeg x) (r := R n) hn (fun j q hq => hw.1.2.2 n _ j q hn hq) z oq (by
    show H1[g n]? = some (arrV _ _ _)
    rw [e1, arrV_store]
    congr 2
    funext q
    by_cases hq : q = i.toNatClampNeg
    · subst hq
      simp [updV, upd]
    · simp [updV, upd, hq])
  rw [nm_self] at h9
  exact kk H1 _ h9
theorem nm_zast (hexec : p.tables.exec = Jvm.exec) (hb : c.code = cc) (hK : va_K D cl tys s) (hw : nh_S D cl sk cA A H0 S g I R H locs) {N : Nat} (hn : S n = some (2, N)) (ha : g n = a) (ht : tys[1]? = some (cA 1, .boolean)) {i x : Int32} (hin : vp_in i N) (hx : narrow .boolean (.int x) = .int x) (hdg : decode cc pc = .ok (.bastore, 1))
    (kk : ∀ (H1 : Heap) (locs1 : List Loc), nh_S D cl sk cA A H0 S g (iu I n i.toNatClampNeg x) R H1 locs1 → W p l e Rm s m args below meth c H1 locs1 cells slots Q (F0 m (pc + 1) ls rest)) : W p l e Rm s m args below meth c H locs cells slots Q (F0 m pc ls (.int x :: .int i :: .ref a :: rest)) := by
  subst ha
  refine W.zast hexec hb (hw.1.1 n _ hn) ((hK.2 1 _ ht).1 N (fun j => .int (I n j))) (fun q => by cases q) (by show ¬ (i < 0 ∨ (arrV _ _ _).slots.size ≤ _); rw [arrV_size]; exact hin) rfl rfl hdg fun H1 e1 z oq => ?_
  have h9 := hw.set (k := i.toNatClampNeg) (i := upd (I n) i.toNatClampNeg x) (r := R n) hn (fun j q hq => hw.1.2.2 n _ j q hn hq) z oq (by
    show H1[g n]? = some (arrV _ _ _)
    rw [e1, hx, arrV_store]
    congr 2
    funext q
    by_cases hq : q = i.toNatClampNeg
    · subst hq
      simp [updV, upd]
    · simp [updV, upd, hq])
  rw [nm_self] at h9
  exact kk H1 _ h9
theorem nm_aast (hexec : p.tables.exec = Jvm.exec) (hb : c.code = cc) (hK : va_K D cl tys s) (hw : nh_S D cl sk cA A H0 S g I R H locs) {t N ci v : Nat} {r : vw_C} (hn : S n = some (t + 3, N)) (ha : g n = a) (ht : tys[t + 2]? = some (cA (t + 2), .object r.1)) (q : nh_N) (hq : S q = some (0, ci)) (hv : g q = v) (hc : cl[ci]? = some r) {i : Int32} (hin : vp_in i N) (hdg : decode cc pc = .ok (.aastore, 1))
    (kk : ∀ (H1 : Heap) (locs1 : List Loc), nh_S D cl sk cA A H0 S g I (ru R n i.toNatClampNeg (some q)) H1 locs1 → W p l e Rm s m args below meth c H1 locs1 cells slots Q (F0 m (pc + 1) ls rest)) : W p l e Rm s m args below meth c H locs cells slots Q (F0 m pc ls (.ref v :: .int i :: .ref a :: rest)) := by
  subst ha
  subst hv
  have hlt : i.toNatClampNeg < N := Nat.not_le.mp fun q => hin (Or.inr q)
  have h0 : ¬ i < 0 := fun q => hin (Or.inl q)
  obtain ⟨r', hr', cellV, g1, g2, g3, -⟩ := hw.1.1 q _ hq
  have hcls := (hK.1 ci r hc).2
  obtain ⟨kA, comp, k1, k2, k3, -⟩ := (hK.2 (t + 2) _ ht).2
  have hcomp : comp = D.1 ci := Option.some.inj (k3.symm.trans hcls.1)
  subst hcomp
  obtain ⟨kC, hkC, -⟩ := hcls.2
  refine W.aast hexec hb (hw.1.1 n _ hn) (fun q h => by cases h) (fun h => by cases h) k1 k2 rfl hkC ⟨h0, by show _ < (arrV _ _ _).slots.size; rw [arrV_size]; exact hlt⟩ g1 (fun q h => by rw [g3] at h; cases h) (by rw [g2]; exact hkC) (by rw [g2]; exact va_assign hcls) rfl rfl hdg fun H1 e1 z oq => ?_
  have h9 := hw.set (k := i.toNatClampNeg) (i := I n) (r := va_up (R n) i.toNatClampNeg (some q)) hn (fun j x hx => by
    by_cases h : j = i.toNatClampNeg
    · subst h
      rw [va_up_self] at hx
      cases hx
      exact ⟨_, hq⟩
    · rw [va_up_ne _ _ h] at hx; exact hw.1.2.2 n _ j x hn hx) z oq (by
    show H1[g n]? = some (arrV _ _ _)
    rw [e1, arrV_store]
    congr 2
    funext j
    by_cases hj : j = i.toNatClampNeg
    · subst hj
      simp [updV, va_up, va_rf]
    · simp [updV, va_up, hj])
  rw [nm_self] at h9
  exact kk H1 _ h9
theorem nm_new (n : nh_N) (hexec : p.tables.exec = Jvm.exec) (hb : c.code = cc) {own C : String} {T : u_T} {N ci index : Nat} {Ts : List Cond} (hts : ∀ w ∈ Ts, w.before args s = true) (hin : ∀ w ∈ u_ws C T N, w ∈ Ts) (ty : Nat → FieldType) (hty : ∀ k, k < N → parseFieldDescriptor (T k).2.2.1 = some (ty k)) (hown : s.vm.findClass own = some m.cls) (hcl : (Cond.classLink own index C).before args s = true) (hinst : (Cond.instantiable C N).before args s = true) (hini : (Cond.initialized C).before args s = true)
    (hK : va_K D cl tys s) (hw : nh_S D cl sk cA A H0 S g I R H locs) (hn : S n = none) (hc : cl[ci]? = some (C, T, N)) (hfs : ∀ j, j < N → defaultValue (ty j) = if sk ci j = true then .null else .int 0) (hcells : cells + 1 ≤ Rm.cells) (hslots : slots + N ≤ Rm.slots) (hdg : decode cc pc = .ok (.new index, 3))
    (kk : ∀ (q : Nat) (H1 : Heap), nh_S D cl sk cA A H0 (nu S n (some (0, ci))) (nu g n q) (nu I n (fun _ => 0)) (nu R n (fun _ => none)) H1 locs →
      W p l e Rm s m args below meth c H1 locs (cells + 1) (slots + N) Q (F0 m (pc + 3) ls (.ref q :: rest))) : W p l e Rm s m args below meth c H locs cells slots Q (F0 m pc ls rest) := by
  have hKn := hK.1 ci _ hc
  refine W.newcK hexec hb hown hcl hinst hini rfl hdg hcells hslots hKn.2.1 rfl fun H1 kC hkC e1 z1 o1 => ?_
  exact kk H.size H1 (hw.new n hn z1 o1 (fun g' => ⟨_, hc, (u_born ty hts hin hKn hkC e1 hty).to (fun j hj => by
    rw [hfs j hj]
    by_cases h : sk ci j = true <;> simp [nh_v, h, va_rf])⟩))
theorem nm_newI (n : nh_N) (hexec : p.tables.exec = Jvm.exec) (hb : c.code = cc) (harr : (Cond.arrayClass .int).before args s = true) (hK : va_K D cl tys s) (hw : nh_S D cl sk cA A H0 S g I R H locs) (hn : S n = none) (ht : tys[0]? = some (cA 0, .int))
    {x : Int32} {N' : Nat} (hx : ¬ x < 0) (hN : x.toNatClampNeg = N') (hbytes : N' * componentBytes .int ≤ 536870912) (hcells : cells + 1 ≤ Rm.cells) (hslots : slots + N' ≤ Rm.slots) {atype : ArrayType} (hat : newarray.typeOf atype = .int) (hdg : decode cc pc = .ok (.newarray atype, 2))
    (kk : ∀ (q : Nat) (H1 : Heap), nh_S D cl sk cA A H0 (nu S n (some (1, N'))) (nu g n q) (nu I n (fun _ => 0)) (nu R n (fun _ => none)) H1 locs →
      W p l e Rm s m args below meth c H1 locs (cells + 1) (slots + N') Q (F0 m (pc + 2) ls (.ref q :: rest))) : W p l e Rm s m args below meth c H locs cells slots Q (F0 m pc ls (.int x :: rest)) := by
  refine va_newaK (atype := atype) hexec hb (by rw [hat]; exact harr) rfl hdg rfl hx hN (by rw [hat]; exact hbytes) hcells hslots rfl fun H1 cA' e1 z1 o1 hAr hNm => ?_
  rw [hat] at e1 hNm
  have hcc : cA' = cA 0 := by
    have h2 : s.vm.findClass ("[" ++ (FieldType.int).toString) = some (cA 0) := (hK.2 0 _ ht).2
    exact Option.some.inj (hNm.symm.trans h2)
  subst hcc
  exact kk H.size H1 (hw.new n hn z1 o1 (fun g' => e1))
theorem nm_newZ (n : nh_N) (hexec : p.tables.exec = Jvm.exec) (hb : c.code = cc) (harr : (Cond.arrayClass .boolean).before args s = true) (hK : va_K D cl tys s) (hw : nh_S D cl sk cA A H0 S g I R H locs) (hn : S n = none) (ht : tys[1]? = some (cA 1, .boolean))
    {x : Int32} {N' : Nat} (hx : ¬ x < 0) (hN : x.toNatClampNeg = N') (hbytes : N' * componentBytes .boolean ≤ 536870912) (hcells : cells + 1 ≤ Rm.cells) (hslots : slots + N' ≤ Rm.slots) {atype : ArrayType} (hat : newarray.typeOf atype = .boolean) (hdg : decode cc pc = .ok (.newarray atype, 2))
    (kk : ∀ (q : Nat) (H1 : Heap), nh_S D cl sk cA A H0 (nu S n (some (2, N'))) (nu g n q) (nu I n (fun _ => 0)) (nu R n (fun _ => none)) H1 locs →
      W p l e Rm s m args below meth c H1 locs (cells + 1) (slots + N') Q (F0 m (pc + 2) ls (.ref q :: rest))) : W p l e Rm s m args below meth c H locs cells slots Q (F0 m pc ls (.int x :: rest)) := by
  refine va_newaK (atype := atype) hexec hb (by rw [hat]; exact harr) rfl hdg rfl hx hN (by rw [hat]; exact hbytes) hcells hslots rfl fun H1 cA' e1 z1 o1 hAr hNm => ?_
  rw [hat] at e1 hNm
  have hcc : cA' = cA 1 := by
    have h2 : s.vm.findClass ("[" ++ (FieldType.boolean).toString) = some (cA 1) := (hK.2 1 _ ht).2
    exact Option.some.inj (hNm.symm.trans h2)
  subst hcc
  exact kk H.size H1 (hw.new n hn z1 o1 (fun g' => e1))
theorem nm_newR (n : nh_N) (hexec : p.tables.exec = Jvm.exec) (hb : c.code = cc) {own C : String} {index t : Nat} (hown : s.vm.findClass own = some m.cls) (hclink : (Cond.classLink own index C).before args s = true) (hover : va_AO C s) (hK : va_K D cl tys s) (hw : nh_S D cl sk cA A H0 S g I R H locs) (hn : S n = none) (ht : tys[t + 2]? = some (cA (t + 2), .object C))
    {x : Int32} {N' : Nat} (hx : ¬ x < 0) (hN : x.toNatClampNeg = N') (hbytes : N' * 4 ≤ 536870912) (hcells : cells + 1 ≤ Rm.cells) (hslots : slots + N' ≤ Rm.slots) (hdg : decode cc pc = .ok (.anewarray index, 3))
    (kk : ∀ (q : Nat) (H1 : Heap), nh_S D cl sk cA A H0 (nu S n (some (t + 3, N'))) (nu g n q) (nu I n (fun _ => 0)) (nu R n (fun _ => none)) H1 locs →
      W p l e Rm s m args below meth c H1 locs (cells + 1) (slots + N') Q (F0 m (pc + 3) ls (.ref q :: rest))) : W p l e Rm s m args below meth c H locs cells slots Q (F0 m pc ls (.int x :: rest)) := by
  subst hN
  refine W.anew hexec hb hown hclink (va_AO.use hover) rfl hdg rfl hx hbytes hcells hslots fun cA' kA comp f1 f2 f3 f4 => ?_
  have hcc : cA' = cA (t + 2) := by
    obtain ⟨_, _, -, -, -, h2⟩ := (hK.2 (t + 2) _ ht).2
    exact Option.some.inj (f1.symm.trans h2)
  subst hcc
  generalize hH1 : H.push ({ cls := cA (t + 2), slots := Array.replicate x.toNatClampNeg .null, vm := .none } : Cell) = H1
  have z1 : H1.size = H.size + 1 := by rw [← hH1, Array.size_push]
  have e1 : H1[H.size]? = some (arrV (cA (t + 2)) x.toNatClampNeg (fun _ => .null)) := by rw [← hH1, Array.getElem?_push_size, ← arrV_new]
  have o1 : ∀ q : Nat, q < H.size → H1[q]? = H[q]? := fun q hq => by rw [← hH1, Array.getElem?_push, if_neg (Nat.ne_of_lt hq)]
  exact kk H.size H1 (hw.new n hn z1 o1 (fun g' => e1))
end NHR
