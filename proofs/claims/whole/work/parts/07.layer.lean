-- A thin layer over the kit: contracts of one shape, their entry, their ends, their calls
abbrev cls : List vw_C := [(R_tb, F_tb, 10), (R_hh, F_hh, 1), (R_pr, F_pr, 10), (R_md, F_md, 1)]
abbrev ty3 (cI cT cP : ClassId) : List (ClassId × FieldType) := [(cI, .int), (cT, .object "HashHall$Table"), (cP, .object "HashHallModel$Pairs")]
abbrev ww (y : MethodName) (b : ByteArray) (n : Nat) (r : Option FieldType) : List Cond := Cond.code y b n r :: al
abbrev wA (D : va_G) (tys : List (ClassId × FieldType)) (sz : Nat) (ws : va_W) (U : State) : Prop := U.heap.size = sz ∧ va_P D cls ws U.heap ∧ va_K D cls tys U ∧ va_D (fun _ => True) ws
abbrev wB (D : va_G) (tys : List (ClassId × FieldType)) (A : Nat → Prop) (ws : va_W) (t : State) : Prop := va_P D cls ws t.heap ∧ va_K D cls tys t ∧ va_D A ws
/-- the end of a method: its answer and the world behind it -/
def cgQ {S : Type} (D : va_G) (tys : List (ClassId × FieldType)) (post : Option Value → S → Prop) (w' : S → va_W) (A : Nat → Prop) : Array Value → State → Outcome → State → Prop := fun _ st oc t => (∃ (v : Option Value) (u : S), oc = .returned v ∧ post v u ∧ wB D tys A (w' u) t) ∧ va_F A st t
/-- a method's contract: from the world ws, with the arguments av, it answers v and leaves the world w' u, post v u; mc cells of ms slots are new at most; d levels of calls -/
def Cg (l : Launch) (y : MethodName) (b : ByteArray) (n : Nat) (r : Option FieldType) (d mc ms : Nat) (D : va_G) (tys : List (ClassId × FieldType)) (av : List Value) (ws : va_W) {S : Type} (post : Option Value → S → Prop) (w' : S → va_W) : Prop :=
  ∀ sz : Nat, Met l y (ww y b n r) (rmL d mc ms) (va_Pc av (wA D tys sz ws)) (cgQ D tys post w' (va_A ws sz)) mc ms (va_A ws sz)
theorem cg_enterF {l : Launch} {y : MethodName} {b : ByteArray} {n : Nat} {r : Option FieldType} {d mc ms : Nat} {D : va_G} {tys : List (ClassId × FieldType)} {av : List Value} {ws : va_W} {S : Type} {post : Option Value → S → Prop} {w' : S → va_W} (hy : plainFor y = true) (hlen : (lg_sl av).length ≤ n)
    (body : ∀ (p : Program) (e : Env) (s : State) (m : MethodId) (below : List Frame) (meth : Method) (c : Code) (args : Array Value), p.tables.exec = Jvm.exec → c.code = b → meth.sig.returnType = r → meth.locks = false → c.maxLocals = n → s.vm.findClass y.cls = some m.cls → meth.name = y.name → (∀ w ∈ al, w.before args s = true) → ∀ (A : Nat → Prop), (∀ q : Nat, s.heap.size ≤ q → A q) → va_K D cls tys s → va_P D cls ws s.heap → va_D A ws → va_S A s.heap s.heap [] → ∀ ls : Array Slot, lv_has ls n (lv_args 0 av) → ∀ Q : State → Prop, Q = MQ below (cgQ D tys post w' A) args s mc ms A →
      W p l e (rmL d mc ms) s m args below meth c s.heap [] 0 0 Q (F0 m 0 ls [])) : Cg l y b n r d mc ms D tys av ws post w' := by
  intro sz
  refine MetFree.of_bodySF (code := b) (maxLocals := n) (ret := r) hy ?_ ?_
  · intro args s m h hn
    obtain ⟨meth, c, h1, h2, h3, h4, h5, h6, -, -⟩ := Cond.code_spec hn (atoms_spec (ws := ww y b n r) h _ List.mem_cons_self)
    exact ⟨meth, c, h1, h2, h3, h4, h5, h6⟩
  intro p e s m args below meth c s₁ B hml hv _
  have hh0 : s₁.heap = s.heap := by rw [B.state]; rfl
  have X0 := Stand.of_body B
  obtain ⟨rfl, hsz, hP, hK, hD0⟩ := hv
  have hts := atoms_spec (ws := ww y b n r) B.pre
  subst hsz
  have K0 := body p e s m below meth c _ B.exec B.bytes B.returns B.notSynchronized hml (findClass_of_methodNamed B.named) (name_of_methodNamed B.named B.method).1 (fun w h => hts w (List.mem_cons_of_mem _ h)) _ (fun q h => Or.inr h) hK hP hD0.self va_S.rf _ (lv_entry av hlen) _ rfl
  rw [← lg_entry_eq] at K0
  obtain ⟨t, a1, o, b1, b2, b3⟩ := K0 s₁ hh0 X0
  exact ⟨t, o, a1, b1, b2, ⟨b3.1, b3.2⟩⟩
theorem cg_enter {l : Launch} {y : MethodName} {b : ByteArray} {n : Nat} {r : Option FieldType} {d mc ms : Nat} {D : va_G} {tys : List (ClassId × FieldType)} {av : List Value} {ws : va_W} {S : Type} {post : Option Value → S → Prop} {w' : S → va_W} (hy : plainName y.cls = true) (hlen : (lg_sl av).length ≤ n)
    (body : ∀ (p : Program) (e : Env) (s : State) (m : MethodId) (below : List Frame) (meth : Method) (c : Code) (args : Array Value), p.tables.exec = Jvm.exec → c.code = b → meth.sig.returnType = r → meth.locks = false → c.maxLocals = n → s.vm.findClass y.cls = some m.cls → meth.name = y.name → (∀ w ∈ al, w.before args s = true) → ∀ (A : Nat → Prop), (∀ q : Nat, s.heap.size ≤ q → A q) → va_K D cls tys s → va_P D cls ws s.heap → va_D A ws → va_S A s.heap s.heap [] → ∀ ls : Array Slot, lv_has ls n (lv_args 0 av) → ∀ Q : State → Prop, Q = MQ below (cgQ D tys post w' A) args s mc ms A →
      W p l e (rmL d mc ms) s m args below meth c s.heap [] 0 0 Q (F0 m 0 ls [])) : Cg l y b n r d mc ms D tys av ws post w' :=
  cg_enterF (plainFor_of_name hy) hlen body
section LY
variable {p : Program} {l : Launch} {e : Env} {R : Room} {s : State} {m : MethodId} {args : Array Value} {below : List Frame} {meth : Method} {c : Code} {H H0 : Heap} {locs : List Loc} {cells slots : Nat} {Q : State → Prop}
variable {cc : ByteArray} {pc : Nat} {ls : Array Slot} {rest st0 : List Value} {D : va_G} {tys : List (ClassId × FieldType)} {A A0 : Nat → Prop} {ws W0 wr : va_W} {S : Type} {post : Option Value → S → Prop} {w' : S → va_W}
theorem cg_iret {u : S} {x : Int32} (hQ : Q = MQ below (cgQ D tys post w' A) args s cells slots A) (hx : p.tables.exec = Jvm.exec) (hb : c.code = cc) (hr : meth.sig.returnType = some .int) (hlk : meth.locks = false) (hK : va_K D cls tys s) (hP : va_P D cls (w' u) H) (hD : va_D A (w' u)) (hS : va_S A s.heap H locs) (hp : post (some (.int x)) u) (hdg : decode cc pc = .ok (.ireturn, 1)) :
    W p l e R s m args below meth c H locs cells slots Q (F0 m pc ls [.int x]) := by
  subst hQ
  exact W.iret hx hb hr (fun t ht hW => ⟨⟨_, u, rfl, hp, by rw [ht]; exact hP, va_K.moved hW.alike hK, hD⟩, hS.F ht⟩) hS.2.2 hdg hlk
theorem cg_zret {u : S} {x : Int32} (hQ : Q = MQ below (cgQ D tys post w' A) args s cells slots A) (hx : p.tables.exec = Jvm.exec) (hb : c.code = cc) (hr : meth.sig.returnType = some .boolean) (hlk : meth.locks = false) (hK : va_K D cls tys s) (hP : va_P D cls (w' u) H) (hD : va_D A (w' u)) (hS : va_S A s.heap H locs) (hn : narrow .boolean (.int x) = .int x) (hp : post (some (.int x)) u) (hdg : decode cc pc = .ok (.ireturn, 1)) :
    W p l e R s m args below meth c H locs cells slots Q (F0 m pc ls [.int x]) := by
  subst hQ
  exact W.zret hx hb hr hn (fun t ht hW => ⟨⟨_, u, rfl, hp, by rw [ht]; exact hP, va_K.moved hW.alike hK, hD⟩, hS.F ht⟩) hS.2.2 hdg hlk
theorem cg_lret {u : S} {x : Int64} (hQ : Q = MQ below (cgQ D tys post w' A) args s cells slots A) (hx : p.tables.exec = Jvm.exec) (hb : c.code = cc) (hr : meth.sig.returnType = some .long) (hlk : meth.locks = false) (hK : va_K D cls tys s) (hP : va_P D cls (w' u) H) (hD : va_D A (w' u)) (hS : va_S A s.heap H locs) (hp : post (some (.long x)) u) (hdg : decode cc pc = .ok (.lreturn, 1)) :
    W p l e R s m args below meth c H locs cells slots Q (F0 m pc ls [.long x]) := by
  subst hQ
  exact W.lret hx hb hr (fun t ht hW => ⟨⟨_, u, rfl, hp, by rw [ht]; exact hP, va_K.moved hW.alike hK, hD⟩, hS.F ht⟩) hS.2.2 hdg hlk
theorem cg_vret {u : S} (hQ : Q = MQ below (cgQ D tys post w' A) args s cells slots A) (hx : p.tables.exec = Jvm.exec) (hb : c.code = cc) (hr : meth.sig.returnType = none) (hlk : meth.locks = false) (hK : va_K D cls tys s) (hP : va_P D cls (w' u) H) (hD : va_D A (w' u)) (hS : va_S A s.heap H locs) (hp : post none u) (hdg : decode cc pc = .ok (.return_, 1)) :
    W p l e R s m args below meth c H locs cells slots Q (F0 m pc ls []) := by
  subst hQ
  exact W.vret hx hb hr (fun t ht hW => ⟨⟨_, u, rfl, hp, by rw [ht]; exact hP, va_K.moved hW.alike hK, hD⟩, hS.F ht⟩) hS.2.2 hdg hlk
theorem cg_aret {u : S} {v : Value} {rt : FieldType} (hQ : Q = MQ below (cgQ D tys post w' A) args s cells slots A) (hx : p.tables.exec = Jvm.exec) (hb : c.code = cc) (hr : meth.sig.returnType = some rt) (hrt : (∃ n, rt = .object n) ∨ ∃ t, rt = .array t) (hv : v = .null ∨ ∃ a, v = .ref a) (hlk : meth.locks = false) (hK : va_K D cls tys s) (hP : va_P D cls (w' u) H) (hD : va_D A (w' u)) (hS : va_S A s.heap H locs) (hp : post (some v) u) (hdg : decode cc pc = .ok (.areturn, 1)) :
    W p l e R s m args below meth c H locs cells slots Q (F0 m pc ls [v]) := by
  subst hQ
  exact W.aret hx hb hr hrt hv (fun t ht hW => ⟨⟨_, u, rfl, hp, by rw [ht]; exact hP, va_K.moved hW.alike hK, hD⟩, hS.F ht⟩) hS.2.2 hdg hlk
/-- what a run of a contract leaves, put beside the rest -/
theorem cg_go {mc ms : Nat} {a : Array Value} (hr : va_Run p l e R s m args below meth c H locs cells slots mc ms (F0 m pc ls st0) rest (cgQ D tys post w' (va_A ws H.size) a) (va_A ws H.size)) (hP : va_P D cls W0 H) (hD : va_D A0 W0) (hS : va_S A0 H0 H locs) (hA : ∀ q, H0.size ≤ q → A0 q)
    (isC isR : List Nat) (eC : isC.map (fun i => W0[i]?) = ws.map some) (eR : isR.map (fun i => W0[i]?) = wr.map some) (nR : va_nd isR = true) (dR : ∀ i ∈ isR, i ∉ isC)
    (kk : ∀ (v : Option Value) (u : S) (H1 : Heap) (locs1 : List Loc), post v u → va_P D cls (wr ++ w' u) H1 → va_D A0 (wr ++ w' u) → va_S A0 H0 H1 locs1 → W p l e R s m args below meth c H1 locs1 (cells + mc) (slots + ms) Q (F0 m (pc + 3) ls (v.toList ++ rest))) : W p l e R s m args below meth c H locs cells slots Q (F0 m pc ls st0) := by
  intro T hT X
  obtain ⟨v, st₀, t, T', L, h0, X', hL, e1, e2, ⟨⟨v', u, hv, hp, hP1, hK1, hD1⟩, hz, hk⟩, st⟩ := hr T hT X
  cases hv
  rw [h0] at hz hk
  have hF := va_free (wc := ws) hD hS hA isC eC
  rw [← e1] at hP1
  have hk' : ∀ q : Nat, q < H.size → ¬ va_A ws H.size q → T'.heap[q]? = H[q]? := fun q h1 h2 => by rw [e1]; exact hk q h1 h2
  obtain ⟨hPj, hDj⟩ := va_join (wr := wr) hP hD isC isR eC eR nR dR hk' hF hP1 hD1
  obtain ⟨t2, a1, b1⟩ := kk v u T'.heap (locs ++ L) hp hPj hDj
    ⟨Nat.le_trans hS.1 (by rw [e1]; exact hz), fun q h1 h2 => by rw [hk' q (Nat.lt_of_lt_of_le h1 hS.1) (fun z => h2 (hF q z))]; exact hS.2.1 q h1 h2, fun q hq => by
      rcases List.mem_append.mp hq with h | h
      · exact hS.2.2 q h
      · exact hF _ (hL q h)⟩ T' rfl X'
  exact ⟨t2, st t2 a1, b1⟩
theorem cg_sub (hP : va_P D cls W0 H) (isC : List Nat) (eC : isC.map (fun i => W0[i]?) = ws.map some) : va_P D cls ws H := hP.sub isC (by
    have h := congrArg (List.filterMap id) eC
    simpa [List.filterMap_map] using h)
theorem cg_pre {a : List Value} (hK : va_K D cls tys s) (hPc : va_P D cls ws H) (hDc : va_D A ws) : FrameBlind (va_Pc a (wA D tys H.size ws)) ∧ ∀ U : State, U.heap = H → s.WarmedH U.vm → va_Pc a (wA D tys H.size ws) a.toArray U := by
  refine ⟨fun a U g mk q => ?_, fun U hU hW => ⟨rfl, by rw [hU], by rw [hU]; exact hPc, va_K.moved hW.alike hK, hDc.weaken (fun _ _ _ _ => trivial)⟩⟩
  obtain ⟨q0, q1, qP, qK, qD⟩ := q
  exact ⟨q0, q1, qP, va_K.moved (u := U) (U := U.calling g mk a) (Vm.Alike.refl U.vm) qK, qD⟩
/-- a call of an instance method by its contract -/
theorem cg_V {own C : String} {index nL : Nat} {y : MethodName} {b : ByteArray} {n : Nat} {r : Option FieldType} {d mc ms : Nat} {a ci q0 : Nat} {As : List Value} {T : u_T} {N : Nat} {fs : List Value} {hn : Nat}
    (hx : p.tables.exec = Jvm.exec) (hb : c.code = cc) (hml : c.maxLocals = nL) (hown : s.vm.findClass own = some m.cls) (hts : ∀ w ∈ al, w.before args s = true) (hC : Cg l y b n r d mc ms D tys (.ref a :: As) ws post w')
    (k1 : Cond.methodLink own index y ∈ al) (k2 : Cond.instanceMethod y ∈ al) (k3 : Cond.selects C y y ∈ al) (k4 : Cond.initialized C ∈ al) (k5 : Cond.code y b n r ∈ al)
    (hd : y.cls = C ∧ y.cls ≠ "java/lang/invoke/MethodHandle" ∧ y.cls ≠ "java/lang/invoke/VarHandle" ∧ (parseMethodDescriptor y.desc).map (fun d => d.parameters.length) = some hn) (hAs : As.length = hn) (hR : d + 1 ≤ R.frames ∧ 8 + (n + 11) + 27 * d ≤ R.locals)
    (hK : va_K D cls tys s) (hP : va_P D cls W0 H) (hD : va_D A0 W0) (hS : va_S A0 H0 H locs) (hA : ∀ q, H0.size ≤ q → A0 q)
    (isC isR : List Nat) (eC : isC.map (fun i => W0[i]?) = ws.map some) (nC : va_nd isC = true) (eR : isR.map (fun i => W0[i]?) = wr.map some) (nR : va_nd isR = true) (dR : ∀ i ∈ isR, i ∉ isC)
    (hq0 : ws[q0]? = some (a, .inr (ci, fs))) (hci : cls[ci]? = some (C, T, N))
    (hl : ls.size = nL) (hst : st0 = As.reverse ++ .ref a :: rest) (hrm : (rest.map fun v => v.category).sum ≤ 8) (hdg : decode cc pc = .ok (.invokevirtual index, 3)) (hf : cells + mc ≤ R.cells ∧ slots + ms ≤ R.slots)
    (kk : ∀ (v : Option Value) (u : S) (H1 : Heap) (locs1 : List Loc), post v u → va_P D cls (wr ++ w' u) H1 → va_D A0 (wr ++ w' u) → va_S A0 H0 H1 locs1 → W p l e R s m args below meth c H1 locs1 (cells + mc) (slots + ms) Q (F0 m (pc + 3) ls (v.toList ++ rest))) : W p l e R s m args below meth c H locs cells slots Q (F0 m pc ls st0) := by
  have hDc : va_D A0 ws := hD.sub isC nC eC
  have hPc : va_P D cls ws H := cg_sub hP isC eC
  have hpre := cg_pre (a := .ref a :: As) hK hPc hDc
  exact cg_go (ws := ws) (a := (Value.ref a :: As).toArray) (va_runV (As := As) (rest := rest) ⟨hx, hb, hml, hown, hts⟩ (hC H.size) (cwV hn hts (al_V k1 k2 k3 k4 k5) rfl rfl rfl hd hR) ⟨hpre.1, va_recv hK hPc hci hq0, hpre.2⟩ rfl hAs hl hst (lv_room hrm) hdg hf) hP hD hS hA isC isR eC eR nR dR kk
/-- a call of a static method by its contract -/
theorem cg_S {own : String} {index nL : Nat} {y : MethodName} {b : ByteArray} {n : Nat} {r : Option FieldType} {d mc ms : Nat} {As : List Value} {hn : Nat}
    (hx : p.tables.exec = Jvm.exec) (hb : c.code = cc) (hml : c.maxLocals = nL) (hown : s.vm.findClass own = some m.cls) (hts : ∀ w ∈ al, w.before args s = true) (hC : Cg l y b n r d mc ms D tys As ws post w')
    (k1 : Cond.methodLink own index y ∈ al) (k2 : Cond.static y ∈ al) (k4 : Cond.initialized y.cls ∈ al) (k5 : Cond.code y b n r ∈ al)
    (hd : y.cls ≠ "java/lang/invoke/MethodHandle" ∧ y.cls ≠ "java/lang/invoke/VarHandle" ∧ (parseMethodDescriptor y.desc).map (fun d => d.parameters.length) = some hn) (hAs : As.length = hn) (hR : d + 1 ≤ R.frames ∧ 8 + (n + 11) + 27 * d ≤ R.locals)
    (hK : va_K D cls tys s) (hP : va_P D cls W0 H) (hD : va_D A0 W0) (hS : va_S A0 H0 H locs) (hA : ∀ q, H0.size ≤ q → A0 q)
    (isC isR : List Nat) (eC : isC.map (fun i => W0[i]?) = ws.map some) (nC : va_nd isC = true) (eR : isR.map (fun i => W0[i]?) = wr.map some) (nR : va_nd isR = true) (dR : ∀ i ∈ isR, i ∉ isC)
    (hl : ls.size = nL) (hst : st0 = As.reverse ++ rest) (hrm : (rest.map fun v => v.category).sum ≤ 8) (hdg : decode cc pc = .ok (.invokestatic index, 3)) (hf : cells + mc ≤ R.cells ∧ slots + ms ≤ R.slots)
    (kk : ∀ (v : Option Value) (u : S) (H1 : Heap) (locs1 : List Loc), post v u → va_P D cls (wr ++ w' u) H1 → va_D A0 (wr ++ w' u) → va_S A0 H0 H1 locs1 → W p l e R s m args below meth c H1 locs1 (cells + mc) (slots + ms) Q (F0 m (pc + 3) ls (v.toList ++ rest))) : W p l e R s m args below meth c H locs cells slots Q (F0 m pc ls st0) := by
  have hDc : va_D A0 ws := hD.sub isC nC eC
  have hPc : va_P D cls ws H := cg_sub hP isC eC
  have hpre := cg_pre (a := As) hK hPc hDc
  exact cg_go (ws := ws) (a := As.toArray) (va_runS (As := As) (rest := rest) ⟨hx, hb, hml, hown, hts⟩ (hC H.size) ⟨callB_of hn hts (al_I k5) rfl rfl rfl (hts _ k4) (hts _ k1) hd hR, hts _ k2⟩ hpre rfl hAs hl hst (lv_room hrm) hdg hf) hP hD hS hA isC isR eC eR nR dR kk
/-- a call of a constructor by its contract -/
theorem cg_I {own : String} {index nL : Nat} {y : MethodName} {b : ByteArray} {n : Nat} {d mc ms : Nat} {a : Nat} {As : List Value} {hn : Nat}
    (hx : p.tables.exec = Jvm.exec) (hb : c.code = cc) (hml : c.maxLocals = nL) (hown : s.vm.findClass own = some m.cls) (hts : ∀ w ∈ al, w.before args s = true) (hC : Cg l y b n none d mc ms D tys (.ref a :: As) ws post w')
    (k1 : Cond.methodLink own index y ∈ al) (k2 : Cond.instanceMethod y ∈ al) (k4 : Cond.initialized y.cls ∈ al) (k5 : Cond.code y b n none ∈ al) (hy1 : y.name = "<init>")
    (hd : y.cls ≠ "java/lang/invoke/MethodHandle" ∧ y.cls ≠ "java/lang/invoke/VarHandle" ∧ (parseMethodDescriptor y.desc).map (fun d => d.parameters.length) = some hn) (hAs : As.length = hn) (hR : d + 1 ≤ R.frames ∧ 8 + (n + 11) + 27 * d ≤ R.locals)
    (hK : va_K D cls tys s) (hP : va_P D cls W0 H) (hD : va_D A0 W0) (hS : va_S A0 H0 H locs) (hA : ∀ q, H0.size ≤ q → A0 q)
    (isC isR : List Nat) (eC : isC.map (fun i => W0[i]?) = ws.map some) (nC : va_nd isC = true) (eR : isR.map (fun i => W0[i]?) = wr.map some) (nR : va_nd isR = true) (dR : ∀ i ∈ isR, i ∉ isC)
    (hl : ls.size = nL) (hst : st0 = As.reverse ++ .ref a :: rest) (hrm : (rest.map fun v => v.category).sum ≤ 8) (hdg : decode cc pc = .ok (.invokespecial index, 3)) (hf : cells + mc ≤ R.cells ∧ slots + ms ≤ R.slots)
    (kk : ∀ (v : Option Value) (u : S) (H1 : Heap) (locs1 : List Loc), post v u → va_P D cls (wr ++ w' u) H1 → va_D A0 (wr ++ w' u) → va_S A0 H0 H1 locs1 → W p l e R s m args below meth c H1 locs1 (cells + mc) (slots + ms) Q (F0 m (pc + 3) ls (v.toList ++ rest))) : W p l e R s m args below meth c H locs cells slots Q (F0 m pc ls st0) := by
  have hDc : va_D A0 ws := hD.sub isC nC eC
  have hPc : va_P D cls ws H := cg_sub hP isC eC
  have hpre := cg_pre (a := .ref a :: As) hK hPc hDc
  exact cg_go (ws := ws) (a := (Value.ref a :: As).toArray) (va_runI (As := As) (rest := rest) ⟨hx, hb, hml, hown, hts⟩ (hC H.size) ⟨callB_of hn hts (al_I k5) rfl rfl rfl (hts _ k4) (hts _ k1) hd hR, hy1, hts _ k2⟩ hpre rfl hAs hl hst (lv_room hrm) hdg hf) hP hD hS hA isC isR eC eR nR dR kk
/-- the top of the stack, by another name -/
theorem tp_i {x y : Int32} (h : x = y) (k : W p l e R s m args below meth c H locs cells slots Q (F0 m pc ls (.int y :: rest))) : W p l e R s m args below meth c H locs cells slots Q (F0 m pc ls (.int x :: rest)) := h ▸ k
theorem tp_l {x y : Int64} (h : x = y) (k : W p l e R s m args below meth c H locs cells slots Q (F0 m pc ls (.long y :: rest))) : W p l e R s m args below meth c H locs cells slots Q (F0 m pc ls (.long x :: rest)) := h ▸ k
/-- a row of ints is read, written at a place k -/
theorem wa_ld {a : Nat} (hx : p.tables.exec = Jvm.exec) (hb : c.code = cc) (hK : va_K D cls tys s) (hP : va_P D cls ws H) (q0 t0 : Nat) {cA : ClassId} {n : Nat} {f : Nat → Int32} (ha : ws[q0]? = some (a, .inl (cA, n, .inl f))) (ht : tys[t0]? = some (cA, .int)) {k : Nat} (hk : k < n) (hn : n < 2 ^ 31) (hdg : decode cc pc = .ok (.iaload, 1))
    (kk : W p l e R s m args below meth c H locs cells slots Q (F0 m (pc + 1) ls (.int (f k) :: rest))) : W p l e R s m args below meth c H locs cells slots Q (F0 m pc ls (.int (nI k) :: .ref a :: rest)) := by
  refine va_iald hx hb hK hP q0 t0 ha ht (vp_in_nI hk hn) hdg ?_
  rw [nI_clamp (by omega)]
  exact kk
theorem wa_st {a : Nat} (hx : p.tables.exec = Jvm.exec) (hb : c.code = cc) (hK : va_K D cls tys s) (hP : va_P D cls ws H) (hD : va_D A ws) (hS : va_S A H0 H locs) (q0 t0 : Nat) {cA : ClassId} {n : Nat} {f : Nat → Int32} (ha : ws[q0]? = some (a, .inl (cA, n, .inl f))) (ht : tys[t0]? = some (cA, .int)) {k : Nat} {x : Int32} (hk : k < n) (hn : n < 2 ^ 31) (hdg : decode cc pc = .ok (.iastore, 1))
    (kk : ∀ (H1 : Heap) (locs1 : List Loc), va_P D cls (ws.set q0 (a, .inl (cA, n, .inl (upd f k x)))) H1 → va_D A (ws.set q0 (a, .inl (cA, n, .inl (upd f k x)))) → va_S A H0 H1 locs1 → W p l e R s m args below meth c H1 locs1 cells slots Q (F0 m (pc + 1) ls rest)) : W p l e R s m args below meth c H locs cells slots Q (F0 m pc ls (.int x :: .int (nI k) :: .ref a :: rest)) := by
  refine va_iast hx hb hK hP hD hS q0 t0 ha ht (vp_in_nI hk hn) hdg ?_
  rw [nI_clamp (by omega)]
  exact kk
/-- a new row of k ints -/
theorem wa_new {cI cT cP : ClassId} (hx : p.tables.exec = Jvm.exec) (hb : c.code = cc) (hts : ∀ w ∈ al, w.before args s = true) (hK : va_K D cls (ty3 cI cT cP) s) (hP : va_P D cls ws H) (hD : va_D A ws) (hS : va_S A H0 H locs) (hA : ∀ q, H0.size ≤ q → A q) {k : Nat} (hk : k ≤ 4096) (hc : cells + 1 ≤ R.cells) (hs : slots + k ≤ R.slots) (hdg : decode cc pc = .ok (.newarray .int, 2))
    (kk : ∀ (q : Nat) (H1 : Heap), va_P D cls (ws ++ [(q, .inl (cI, k, .inl (fun _ => 0)))]) H1 → va_D A (ws ++ [(q, .inl (cI, k, .inl (fun _ => 0)))]) → va_S A H0 H1 locs → W p l e R s m args below meth c H1 locs (cells + 1) (slots + k) Q (F0 m (pc + 2) ls (.ref q :: rest))) : W p l e R s m args below meth c H locs cells slots Q (F0 m pc ls (.int (nI k) :: rest)) := by
  refine va_newa (atype := .int) (ty := .int) (N' := k) (a0 := (k, .inl (fun _ => 0))) hx hb (hts _ ka_int) rfl hK hP hD hS hA (fun _ => rfl) (nI_pos (by omega)) (nI_clamp (by omega)) (by show k * 4 ≤ _; omega) hc hs hdg (fun q cA H1 hK1 hP1 hD1 hS1 => ?_)
  have h1 : s.vm.findClass ("[" ++ FieldType.int.toString) = some cA := (hK1.2 3 _ rfl).2
  have h2 : s.vm.findClass ("[" ++ FieldType.int.toString) = some cI := (hK.2 0 _ rfl).2
  have h3 : cA = cI := Option.some.inj (h1.symm.trans h2)
  subst h3
  exact kk q H1 hP1 hD1 hS1
end LY
section LZ
variable {p : Program} {l : Launch} {e : Env} {R : Room} {s : State} {m : MethodId} {args : Array Value} {below : List Frame} {meth : Method} {c : Code} {H H0 : Heap} {locs : List Loc} {cells slots : Nat} {Q : State → Prop}
variable {cc : ByteArray} {pc : Nat} {ls : Array Slot} {rest : List Value} {D : va_G} {tys : List (ClassId × FieldType)} {A : Nat → Prop} {ws : va_W}
/-- System.arraycopy of ints -/
theorem wa_cpy {own : String} {index nL : Nat} (hx : p.tables.exec = Jvm.exec) (hb : c.code = cc) (hml : c.maxLocals = nL) (hl : ls.size = nL) (hown : s.vm.findClass own = some m.cls) (hts : ∀ w ∈ al, w.before args s = true) (k1 : Cond.methodLink own index arraycopyName ∈ al)
    (hK : va_K D cls tys s) (hP : va_P D cls ws H) (hD : va_D A ws) (hS : va_S A H0 H locs) (q0 q1 t0 : Nat) {a a0 : Nat} {cA : ClassId} {n0 n1 : Nat} {f g : Nat → Int32} (ha0 : ws[q0]? = some (a0, .inl (cA, n0, .inl f))) (ha1 : ws[q1]? = some (a, .inl (cA, n1, .inl g))) (ht0 : tys[t0]? = some (cA, .int))
    {sp dp n : Nat} (h4 : sp + n ≤ n0) (h5 : dp + n ≤ n1) (hn0 : n0 < 2 ^ 31) (hn1 : n1 < 2 ^ 31) (hfr : 1 ≤ R.frames) (hlo : (rest.map fun v => v.category).sum + (nativeFrameWords "java/lang/System" "arraycopy" 5 + 11) ≤ R.locals) (hdg : decode cc pc = .ok (.invokestatic index, 3))
    (kk : ∀ (H1 : Heap) (locs1 : List Loc), va_P D cls (ws.set q1 (a, .inl (cA, n1, .inl (va_cpy f g sp dp n)))) H1 → va_D A (ws.set q1 (a, .inl (cA, n1, .inl (va_cpy f g sp dp n)))) → va_S A H0 H1 locs1 → W p l e R s m args below meth c H1 locs1 cells slots Q (F0 m (pc + 3) ls rest)) : W p l e R s m args below meth c H locs cells slots Q (F0 m pc ls (.int (nI n) :: .int (nI dp) :: .ref a :: .int (nI sp) :: .ref a0 :: rest)) := by
  have e1 : (nI sp).toNatClampNeg = sp := nI_clamp (by omega)
  have e2 : (nI dp).toNatClampNeg = dp := nI_clamp (by omega)
  have e3 : (nI n).toNatClampNeg = n := nI_clamp (by omega)
  refine va_copyi hx hb (hml.trans hl.symm) hown (hts _ k1) (hts _ kv_js_arraycopy) (hts _ kt_js_arraycopy) (hts _ kn_js) hK hP hD hS q0 q1 t0 t0 ha0 ha1 ht0 ht0 rfl (nI_pos (by omega)) (nI_pos (by omega)) (nI_pos (by omega)) (by rw [e1, e3]; exact h4) (by rw [e2, e3]; exact h5) (fun _ _ => rfl) hfr hlo hdg ?_
  rw [e1, e2, e3]
  exact kk
/-- Math.min -/
theorem wa_min {own : String} {index nL : Nat} (hx : p.tables.exec = Jvm.exec) (hb : c.code = cc) (hml : c.maxLocals = nL) (hl : ls.size = nL) (hown : s.vm.findClass own = some m.cls) (hts : ∀ w ∈ al, w.before args s = true) (k1 : Cond.methodLink own index Lib.Math.min.name ∈ al) (hfr : 1 ≤ R.frames) (hlo : (rest.map fun v => v.category).sum + 13 ≤ R.locals) (hc : cells ≤ R.cells) (hs : slots ≤ R.slots) {x y z : Int32} (hz : (if y < x then y else x) = z) (hdg : decode cc pc = .ok (.invokestatic index, 3))
    (kk : W p l e R s m args below meth c H locs cells slots Q (F0 m (pc + 3) ls (.int z :: rest))) : W p l e R s m args below meth c H locs cells slots Q (F0 m pc ls (.int y :: .int x :: rest)) := by
  refine va_mmin hx hb (hml.trans hl.symm) hown (hts _ k1) (hts _ kt_jm_min) (hts _ kn_jm) (hts _ kc_jm_min) hfr hlo hc hs hdg ?_
  rw [hz]
  exact kk
end LZ
