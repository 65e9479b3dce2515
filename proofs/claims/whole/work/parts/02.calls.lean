/-! CONTRACTS over named heaps, and calls -/
def nh_Pc (D : va_G) (cl : List vw_C) (sk : Nat → Nat → Bool) (cA : Nat → ClassId) (Kx : State → Prop) (av : List Value) (S : nh_N → Option nh_C) (g : nh_N → Nat) (I : nh_N → Nat → Int32) (R : nh_N → Nat → Option nh_N) (sz : Nat) : Array Value → State → Prop := va_Pc av (fun U => U.heap.size = sz ∧ nh_P D cl sk cA S g I R U.heap ∧ Kx U)
abbrev nh_post : Type := Option Value → (nh_N → Option nh_C) → (nh_N → Nat) → (nh_N → Nat → Int32) → (nh_N → Nat → Option nh_N) → Prop
def nh_Q (D : va_G) (cl : List vw_C) (sk : Nat → Nat → Bool) (cA : Nat → ClassId) (A : Nat → Prop) (post : nh_post) : Array Value → State → Outcome → State → Prop := fun _ st oc t => (∃ (v : Option Value) (S' : nh_N → Option nh_C) (g' : nh_N → Nat) (I' : nh_N → Nat → Int32) (R' : nh_N → Nat → Option nh_N), oc = .returned v ∧ post v S' g' I' R' ∧ nh_P D cl sk cA S' g' I' R' t.heap ∧ ∀ n c, S' n = some c → A (g' n)) ∧ va_F A st t
/-- method y, with fr frames and lo words of locals below it, makes mc cells of ms slots: from the arguments av and the named heap S g I R it comes to post -/
def nh_M (l : Launch) (y : MethodName) (ws : List Cond) (fr lo mc ms : Nat) (D : va_G) (cl : List vw_C) (sk : Nat → Nat → Bool) (cA : Nat → ClassId) (Kx : State → Prop) (av : List Value) (S : nh_N → Option nh_C) (g : nh_N → Nat) (I : nh_N → Nat → Int32) (R : nh_N → Nat → Option nh_N) (post : nh_post) : Prop :=
  ∀ sz : Nat, Met l y ws { frames := fr, cells := mc, slots := ms, locals := lo } (nh_Pc D cl sk cA Kx av S g I R sz) (nh_Q D cl sk cA (nh_A S g sz) post) mc ms (nh_A S g sz)
def nh_Kok (Kx : State → Prop) : Prop := (∀ u U : State, u.WarmedH U.vm → Kx u → Kx U) ∧ ∀ u U : State, u.vm = U.vm → Kx u → Kx U
theorem nh_of {l : Launch} {y : MethodName} {ws ws' : List Cond} {fr lo mc ms : Nat} {D : va_G} {cl : List vw_C} {sk : Nat → Nat → Bool} {cA : Nat → ClassId} {Kx : State → Prop} {av : List Value} {S : nh_N → Option nh_C} {g : nh_N → Nat} {I : nh_N → Nat → Int32} {R : nh_N → Nat → Option nh_N} {post : nh_post} {cc : ByteArray} {maxL : Nat} {ret : Option FieldType}
    (hy : plainName y.cls = true) (hw : ws = Cond.code y cc maxL ret :: ws') (hlen : (lg_sl av).length ≤ maxL)
    (body : ∀ (p : Program) (e : Env) (s : State) (m : MethodId) (below : List Frame) (meth : Method) (c : Code) (A : Nat → Prop) (ls : Array Slot), p.tables.exec = Jvm.exec → c.code = cc → meth.sig.returnType = ret → c.maxLocals = maxL → (∀ w ∈ ws, w.before av.toArray s = true) → s.vm.findClass y.cls = some m.cls → meth.locks = false → meth.name = y.name → Kx s → nh_S D cl sk cA A s.heap S g I R s.heap [] → lv_has ls maxL (lv_args 0 av) →
      W p l e { frames := fr, cells := mc, slots := ms, locals := lo } s m av.toArray below meth c s.heap [] 0 0 (MQ below (nh_Q D cl sk cA A post) av.toArray s mc ms A) (F0 m 0 ls [])) : nh_M l y ws fr lo mc ms D cl sk cA Kx av S g I R post := by
  intro sz
  refine Met.ofW (cc := cc) (maxL := maxL) (ret := ret) hy hw ?_
  intro p e s m args below meth c s₁ B hml hv
  obtain ⟨rfl, hsz, hP, hK⟩ := hv
  subst hsz
  have hl := lv_entry av (n := maxL) hlen
  rw [lg_entry_eq]
  exact body p e s m below meth c _ _ B.exec B.bytes B.returns hml (atoms_spec (ws := ws) B.pre) (findClass_of_methodNamed B.named) B.notSynchronized (name_of_methodNamed B.named B.method).1 hK ⟨hP, fun n c h => Or.inl ⟨n, c, h, rfl⟩, va_S.rf, fun q h => Or.inr h⟩ hl
section NHC
variable {p : Program} {l : Launch} {e : Env} {Rm : Room} {s : State} {m : MethodId} {args : Array Value} {below : List Frame} {meth : Method} {c : Code} {H : Heap} {locs : List Loc} {cells slots : Nat} {Q : State → Prop}
variable {cc : ByteArray} {pc : Nat} {ls : Array Slot} {rest st0 : List Value} {D : va_G} {cl : List vw_C} {sk : Nat → Nat → Bool} {cA : Nat → ClassId} {A A0 : Nat → Prop} {tys : List (ClassId × FieldType)} {S : nh_N → Option nh_C} {g : nh_N → Nat} {I : nh_N → Nat → Int32} {R : nh_N → Nat → Option nh_N} {H0 : Heap} {post : nh_post} {mc ms : Nat} {a : Array Value} {Kx : State → Prop}
theorem nh_iret {ty : FieldType} {v : Int32} (hexec : p.tables.exec = Jvm.exec) (hb : c.code = cc) (hr : meth.sig.returnType = some ty) (hn : narrow ty (.int v) = .int v) (hlocks : meth.locks = false) (hw : nh_S D cl sk cA A s.heap S g I R H locs) (h1 : cells ≤ mc) (h2 : slots ≤ ms) (hdg : decode cc pc = .ok (.ireturn, 1)) (hp : post (some (.int v)) S g I R) : W p l e Rm s m args below meth c H locs cells slots (MQ below (nh_Q D cl sk cA A post) args s mc ms A) (F0 m pc ls [.int v]) :=
  W.widen h1 h2 (W.zret hexec hb hr hn (fun t ht _ => ⟨⟨_, _, _, _, _, rfl, hp, by rw [ht]; exact hw.1, hw.2.1⟩, hw.2.2.1.F ht⟩) hw.2.2.1.2.2 hdg hlocks)
theorem nh_vret (hexec : p.tables.exec = Jvm.exec) (hb : c.code = cc) (hr : meth.sig.returnType = none) (hlocks : meth.locks = false) (hw : nh_S D cl sk cA A s.heap S g I R H locs) (h1 : cells ≤ mc) (h2 : slots ≤ ms) (hdg : decode cc pc = .ok (.return_, 1)) (hp : post none S g I R) : W p l e Rm s m args below meth c H locs cells slots (MQ below (nh_Q D cl sk cA A post) args s mc ms A) (F0 m pc ls []) :=
  W.widen h1 h2 (W.vret hexec hb hr (fun t ht _ => ⟨⟨_, _, _, _, _, rfl, hp, by rw [ht]; exact hw.1, hw.2.1⟩, hw.2.2.1.F ht⟩) hw.2.2.1.2.2 hdg hlocks)
theorem nh_aret {v : Value} {rt : FieldType} (hexec : p.tables.exec = Jvm.exec) (hb : c.code = cc) (hr : meth.sig.returnType = some rt) (hrt : (∃ n, rt = .object n) ∨ ∃ t, rt = .array t) (hv : v = .null ∨ ∃ a, v = .ref a) (hlocks : meth.locks = false) (hw : nh_S D cl sk cA A s.heap S g I R H locs) (h1 : cells ≤ mc) (h2 : slots ≤ ms) (hdg : decode cc pc = .ok (.areturn, 1)) (hp : post (some v) S g I R) : W p l e Rm s m args below meth c H locs cells slots (MQ below (nh_Q D cl sk cA A post) args s mc ms A) (F0 m pc ls [v]) :=
  W.widen h1 h2 (W.aret hexec hb hr hrt hv (fun t ht _ => ⟨⟨_, _, _, _, _, rfl, hp, by rw [ht]; exact hw.1, hw.2.1⟩, hw.2.2.1.F ht⟩) hw.2.2.1.2.2 hdg hlocks)
/-- behind a call; the last two say what the call left of the heap that is not this system's -/
theorem nh_call2 (hr : va_Run p l e Rm s m args below meth c H locs cells slots mc ms (F0 m pc ls st0) rest (nh_Q D cl sk cA (nh_A S g H.size) post a) (nh_A S g H.size)) (hw : nh_S D cl sk cA A0 H0 S g I R H locs)
    (kk : ∀ (v : Option Value) (S' : nh_N → Option nh_C) (g' : nh_N → Nat) (I' : nh_N → Nat → Int32) (R' : nh_N → Nat → Option nh_N) (H1 : Heap) (locs1 : List Loc), post v S' g' I' R' → nh_S D cl sk cA A0 H0 S' g' I' R' H1 locs1 → (∀ q, q < H.size → ¬ nh_A S g H.size q → H1[q]? = H[q]?) → (∀ n c, S' n = some c → nh_A S g H.size (g' n)) →
      W p l e Rm s m args below meth c H1 locs1 (cells + mc) (slots + ms) Q (F0 m (pc + 3) ls (v.toList ++ rest))) : W p l e Rm s m args below meth c H locs cells slots Q (F0 m pc ls st0) := by
  intro T hT X
  obtain ⟨v, st₀, t, T', L, h0, X', hL, e1, e2, ⟨⟨v', S', g', I', R', hv, hp, hP, hA⟩, hz, hk⟩, st⟩ := hr T hT X
  cases hv
  rw [h0] at hz hk
  have hsub : ∀ q, nh_A S g H.size q → A0 q := by
    intro q hq
    rcases hq with ⟨n, c, h1, h2⟩ | h1
    · rw [← h2]; exact hw.2.1 n c h1
    · exact hw.2.2.2 q (Nat.le_trans hw.2.2.1.1 h1)
  obtain ⟨t2, a1, b1⟩ := kk v S' g' I' R' T'.heap (locs ++ L) hp ⟨by rw [e1]; exact hP, fun n c h => hsub _ (hA n c h), ⟨Nat.le_trans hw.2.2.1.1 (by rw [e1]; exact hz), fun q h1 h2 => by rw [e1, hk q (Nat.lt_of_lt_of_le h1 hw.2.2.1.1) (fun z => h2 (hsub q z))]; exact hw.2.2.1.2.1 q h1 h2, fun q hq => by
      rcases List.mem_append.mp hq with h | h
      · exact hw.2.2.1.2.2 q h
      · exact hsub _ (hL q h)⟩, hw.2.2.2⟩ (fun q h1 h2 => by rw [e1]; exact hk q h1 h2) hA T' rfl X'
  exact ⟨t2, st t2 a1, b1⟩
theorem nh_call (hr : va_Run p l e Rm s m args below meth c H locs cells slots mc ms (F0 m pc ls st0) rest (nh_Q D cl sk cA (nh_A S g H.size) post a) (nh_A S g H.size)) (hw : nh_S D cl sk cA A0 H0 S g I R H locs)
    (kk : ∀ (v : Option Value) (S' : nh_N → Option nh_C) (g' : nh_N → Nat) (I' : nh_N → Nat → Int32) (R' : nh_N → Nat → Option nh_N) (H1 : Heap) (locs1 : List Loc), post v S' g' I' R' → nh_S D cl sk cA A0 H0 S' g' I' R' H1 locs1 →
      W p l e Rm s m args below meth c H1 locs1 (cells + mc) (slots + ms) Q (F0 m (pc + 3) ls (v.toList ++ rest))) : W p l e Rm s m args below meth c H locs cells slots Q (F0 m pc ls st0) :=
  nh_call2 hr hw fun v S' g' I' R' H1 locs1 hp h _ _ => kk v S' g' I' R' H1 locs1 hp h
theorem nh_preS {As : List Value} (hw : nh_S D cl sk cA A0 H0 S g I R H locs) (hKo : nh_Kok Kx) (hK : Kx s) : PreS s H (nh_Pc D cl sk cA Kx As S g I R H.size) As :=
  ⟨fun a U g' mk q => by
    obtain ⟨q0, q1, qP, qK⟩ := q
    exact ⟨q0, q1, qP, hKo.2 U _ rfl qK⟩, fun U hU hW => ⟨rfl, by rw [hU], by rw [hU]; exact hw.1, hKo.1 s U hW hK⟩⟩
theorem nh_preV {As : List Value} {b ci : Nat} {n : nh_N} {C : String} {T : u_T} {N : Nat} (hw : nh_S D cl sk cA A0 H0 S g I R H locs) (hKo : nh_Kok Kx) (hK : Kx s) (hKa : va_K D cl tys s) (hn : S n = some (0, ci)) (hb : g n = b) (hc : cl[ci]? = some (C, T, N)) : PreV s H C b (nh_Pc D cl sk cA Kx (.ref b :: As) S g I R H.size) As := by
  refine ⟨(nh_preS (As := .ref b :: As) hw hKo hK).1, ?_, (nh_preS (As := .ref b :: As) hw hKo hK).2⟩
  subst hb
  obtain ⟨q', h1, cell, g1, g2, g3, -⟩ := hw.1.1 n _ hn
  exact ⟨cell, g1, by rw [g3]; rfl, by rw [g2]; exact (hKa.1 ci _ hc).2.1⟩
variable {y : MethodName} {bytes : ByteArray} {maxL nL n index fr lo : Nat} {ret : Option FieldType} {ws Ts : List Cond} {own C host : String} {b : Addr} {As : List Value}
theorem nh_callV {nm : nh_N} {ci N : Nat} {T : u_T} (S0 : CallFix p m c cc nL s args Ts own) (hM : nh_M l y ws fr lo mc ms D cl sk cA Kx (.ref b :: As) S g I R post) (cw : CallW Rm s args own C index y bytes maxL ret ws { frames := fr, cells := mc, slots := ms, locals := lo } mc ms n) (hKo : nh_Kok Kx) (hK : Kx s) (hKa : va_K D cl tys s) (hw : nh_S D cl sk cA A0 H0 S g I R H locs) (hn : S nm = some (0, ci)) (hg : g nm = b) (hc : cl[ci]? = some (C, T, N)) (hlen : As.length = n) (hsize : ls.size = nL) (hstack : st0 = As.reverse ++ .ref b :: rest) (hroom : (rest.map fun v => v.category).sum ≤ 8) (hdg : decode cc pc = .ok (.invokevirtual index, 3)) (hf : cells + mc ≤ Rm.cells ∧ slots + ms ≤ Rm.slots)
    (kk : ∀ (v : Option Value) (S' : nh_N → Option nh_C) (g' : nh_N → Nat) (I' : nh_N → Nat → Int32) (R' : nh_N → Nat → Option nh_N) (H1 : Heap) (locs1 : List Loc), post v S' g' I' R' → nh_S D cl sk cA A0 H0 S' g' I' R' H1 locs1 →
      W p l e Rm s m args below meth c H1 locs1 (cells + mc) (slots + ms) Q (F0 m (pc + 3) ls (v.toList ++ rest))) : W p l e Rm s m args below meth c H locs cells slots Q (F0 m pc ls st0) :=
  nh_call (va_runV (As := As) (rest := rest) S0 (hM H.size) cw (nh_preV hw hKo hK hKa hn hg hc) rfl hlen hsize hstack (lv_room hroom) hdg hf) hw kk
theorem nh_callV2 {nm : nh_N} {ci N : Nat} {T : u_T} (S0 : CallFix p m c cc nL s args Ts own) (hM : nh_M l y ws fr lo mc ms D cl sk cA Kx (.ref b :: As) S g I R post) (cw : CallW Rm s args own C index y bytes maxL ret ws { frames := fr, cells := mc, slots := ms, locals := lo } mc ms n) (hKo : nh_Kok Kx) (hK : Kx s) (hKa : va_K D cl tys s) (hw : nh_S D cl sk cA A0 H0 S g I R H locs) (hn : S nm = some (0, ci)) (hg : g nm = b) (hc : cl[ci]? = some (C, T, N)) (hlen : As.length = n) (hsize : ls.size = nL) (hstack : st0 = As.reverse ++ .ref b :: rest) (hroom : (rest.map fun v => v.category).sum ≤ 8) (hdg : decode cc pc = .ok (.invokevirtual index, 3)) (hf : cells + mc ≤ Rm.cells ∧ slots + ms ≤ Rm.slots)
    (kk : ∀ (v : Option Value) (S' : nh_N → Option nh_C) (g' : nh_N → Nat) (I' : nh_N → Nat → Int32) (R' : nh_N → Nat → Option nh_N) (H1 : Heap) (locs1 : List Loc), post v S' g' I' R' → nh_S D cl sk cA A0 H0 S' g' I' R' H1 locs1 → (∀ q, q < H.size → ¬ nh_A S g H.size q → H1[q]? = H[q]?) → (∀ n c, S' n = some c → nh_A S g H.size (g' n)) →
      W p l e Rm s m args below meth c H1 locs1 (cells + mc) (slots + ms) Q (F0 m (pc + 3) ls (v.toList ++ rest))) : W p l e Rm s m args below meth c H locs cells slots Q (F0 m pc ls st0) :=
  nh_call2 (va_runV (As := As) (rest := rest) S0 (hM H.size) cw (nh_preV hw hKo hK hKa hn hg hc) rfl hlen hsize hstack (lv_room hroom) hdg hf) hw kk
theorem nh_callS (S0 : CallFix p m c cc nL s args Ts own) (hM : nh_M l y ws fr lo mc ms D cl sk cA Kx As S g I R post) (cw : CallB Rm s args own index y bytes maxL ret ws { frames := fr, cells := mc, slots := ms, locals := lo } mc ms n ∧ (Cond.static y).before args s = true) (hKo : nh_Kok Kx) (hK : Kx s) (hw : nh_S D cl sk cA A0 H0 S g I R H locs) (hlen : As.length = n) (hsize : ls.size = nL) (hstack : st0 = As.reverse ++ rest) (hroom : (rest.map fun v => v.category).sum ≤ 8) (hdg : decode cc pc = .ok (.invokestatic index, 3)) (hf : cells + mc ≤ Rm.cells ∧ slots + ms ≤ Rm.slots)
    (kk : ∀ (v : Option Value) (S' : nh_N → Option nh_C) (g' : nh_N → Nat) (I' : nh_N → Nat → Int32) (R' : nh_N → Nat → Option nh_N) (H1 : Heap) (locs1 : List Loc), post v S' g' I' R' → nh_S D cl sk cA A0 H0 S' g' I' R' H1 locs1 →
      W p l e Rm s m args below meth c H1 locs1 (cells + mc) (slots + ms) Q (F0 m (pc + 3) ls (v.toList ++ rest))) : W p l e Rm s m args below meth c H locs cells slots Q (F0 m pc ls st0) :=
  nh_call (va_runS (As := As) (rest := rest) S0 (hM H.size) cw (nh_preS hw hKo hK) rfl hlen hsize hstack (lv_room hroom) hdg hf) hw kk
theorem nh_callI (S0 : CallFix p m c cc nL s args Ts own) (hM : nh_M l y ws fr lo mc ms D cl sk cA Kx (.ref b :: As) S g I R post) (cw : CallB Rm s args own index y bytes maxL none ws { frames := fr, cells := mc, slots := ms, locals := lo } mc ms n ∧ y.name = "<init>" ∧ (Cond.instanceMethod y).before args s = true) (hKo : nh_Kok Kx) (hK : Kx s) (hw : nh_S D cl sk cA A0 H0 S g I R H locs) (hlen : As.length = n) (hsize : ls.size = nL) (hstack : st0 = As.reverse ++ .ref b :: rest) (hroom : (rest.map fun v => v.category).sum ≤ 8) (hdg : decode cc pc = .ok (.invokespecial index, 3)) (hf : cells + mc ≤ Rm.cells ∧ slots + ms ≤ Rm.slots)
    (kk : ∀ (v : Option Value) (S' : nh_N → Option nh_C) (g' : nh_N → Nat) (I' : nh_N → Nat → Int32) (R' : nh_N → Nat → Option nh_N) (H1 : Heap) (locs1 : List Loc), post v S' g' I' R' → nh_S D cl sk cA A0 H0 S' g' I' R' H1 locs1 → (∀ q, q < H.size → ¬ nh_A S g H.size q → H1[q]? = H[q]?) → (∀ n c, S' n = some c → nh_A S g H.size (g' n)) →
      W p l e Rm s m args below meth c H1 locs1 (cells + mc) (slots + ms) Q (F0 m (pc + 3) ls (v.toList ++ rest))) : W p l e Rm s m args below meth c H locs cells slots Q (F0 m pc ls st0) :=
  nh_call2 (va_runI (As := As) (rest := rest) S0 (hM H.size) cw (nh_preS (As := .ref b :: As) hw hKo hK) rfl hlen hsize hstack (lv_room hroom) hdg hf) hw kk
theorem nh_callSN (S0 : CallFix p m c cc nL s args Ts own) (hM : nh_M l y ws fr lo mc ms D cl sk cA Kx As S g I R post) (cw : va_CN Rm s args own index y host bytes maxL ret ws { frames := fr, cells := mc, slots := ms, locals := lo } mc ms n ∧ (Cond.static y).before args s = true ∧ True) (hKo : nh_Kok Kx) (hK : Kx s) (hw : nh_S D cl sk cA A0 H0 S g I R H locs) (hlen : As.length = n) (hsize : ls.size = nL) (hstack : st0 = As.reverse ++ rest) (hroom : (rest.map fun v => v.category).sum ≤ 8) (hdg : decode cc pc = .ok (.invokestatic index, 3)) (hf : cells + mc ≤ Rm.cells ∧ slots + ms ≤ Rm.slots)
    (kk : ∀ (v : Option Value) (S' : nh_N → Option nh_C) (g' : nh_N → Nat) (I' : nh_N → Nat → Int32) (R' : nh_N → Nat → Option nh_N) (H1 : Heap) (locs1 : List Loc), post v S' g' I' R' → nh_S D cl sk cA A0 H0 S' g' I' R' H1 locs1 →
      W p l e Rm s m args below meth c H1 locs1 (cells + mc) (slots + ms) Q (F0 m (pc + 3) ls (v.toList ++ rest))) : W p l e Rm s m args below meth c H locs cells slots Q (F0 m pc ls st0) :=
  nh_call (va_runSN (As := As) (rest := rest) S0 (hM H.size) cw (nh_preS hw hKo hK) rfl hlen hsize hstack (lv_room hroom) hdg hf) hw kk
end NHC
