-- The two constructors, with a word that does not stand in al: printed by wip/whole/gen/ct.py
/-- a contract with one more premise on the state's tables -/
def CgX (X : State → Prop) (l : Launch) (y : MethodName) (b : ByteArray) (n : Nat) (r : Option FieldType) (d mc ms : Nat) (D : va_G) (tys : List (ClassId × FieldType)) (av : List Value) (ws : va_W) {S : Type} (post : Option Value → S → Prop) (w' : S → va_W) : Prop :=
  ∀ sz : Nat, Met l y (ww y b n r) (rmL d mc ms) (va_Pc av (fun U => wA D tys sz ws U ∧ X U)) (cgQ D tys post w' (va_A ws sz)) mc ms (va_A ws sz)
theorem cg_enterX {X : State → Prop} {l : Launch} {y : MethodName} {b : ByteArray} {n : Nat} {r : Option FieldType} {d mc ms : Nat} {D : va_G} {tys : List (ClassId × FieldType)} {av : List Value} {ws : va_W} {S : Type} {post : Option Value → S → Prop} {w' : S → va_W} (hy : plainFor y = true) (hlen : (lg_sl av).length ≤ n)
    (body : ∀ (p : Program) (e : Env) (s : State) (m : MethodId) (below : List Frame) (meth : Method) (c : Code) (args : Array Value), p.tables.exec = Jvm.exec → c.code = b → meth.sig.returnType = r → meth.locks = false → c.maxLocals = n → s.vm.findClass y.cls = some m.cls → meth.name = y.name → (∀ w ∈ al, w.before args s = true) → X s → ∀ (A : Nat → Prop), (∀ q : Nat, s.heap.size ≤ q → A q) → va_K D cls tys s → va_P D cls ws s.heap → va_D A ws → va_S A s.heap s.heap [] → ∀ ls : Array Slot, lv_has ls n (lv_args 0 av) → ∀ Q : State → Prop, Q = MQ below (cgQ D tys post w' A) args s mc ms A →
      W p l e (rmL d mc ms) s m args below meth c s.heap [] 0 0 Q (F0 m 0 ls [])) : CgX X l y b n r d mc ms D tys av ws post w' := by
  intro sz
  refine MetFree.of_bodySF (code := b) (maxLocals := n) (ret := r) hy ?_ ?_
  · intro args s m h hn
    obtain ⟨meth, c, h1, h2, h3, h4, h5, h6, -, -⟩ := Cond.code_spec hn (atoms_spec (ws := ww y b n r) h _ List.mem_cons_self)
    exact ⟨meth, c, h1, h2, h3, h4, h5, h6⟩
  intro p e s m args below meth c s₁ B hml hv _
  have hh0 : s₁.heap = s.heap := by rw [B.state]; rfl
  have X0 := Stand.of_body B
  obtain ⟨rfl, ⟨hsz, hP, hK, hD0⟩, hXs⟩ := hv
  have hts := atoms_spec (ws := ww y b n r) B.pre
  subst hsz
  have K0 := body p e s m below meth c _ B.exec B.bytes B.returns B.notSynchronized hml (findClass_of_methodNamed B.named) (name_of_methodNamed B.named B.method).1 (fun w h => hts w (List.mem_cons_of_mem _ h)) hXs _ (fun q h => Or.inr h) hK hP hD0.self va_S.rf _ (lv_entry av hlen) _ rfl
  rw [← lg_entry_eq] at K0
  obtain ⟨t, a1, o, b1, b2, b3⟩ := K0 s₁ hh0 X0
  exact ⟨t, o, a1, b1, b2, ⟨b3.1, b3.2⟩⟩
section CX
variable {p : Program} {l : Launch} {e : Env} {R : Room} {s : State} {m : MethodId} {args : Array Value} {below : List Frame} {meth : Method} {c : Code} {H H0 : Heap} {locs : List Loc} {cells slots : Nat} {Q : State → Prop}
variable {cc : ByteArray} {pc : Nat} {ls : Array Slot} {rest st0 : List Value} {D : va_G} {tys : List (ClassId × FieldType)} {A A0 : Nat → Prop} {ws W0 wr : va_W} {S : Type} {post : Option Value → S → Prop} {w' : S → va_W}
/-- a call of a constructor by its contract -/
theorem cg_IX {X : State → Prop} {own : String} {index nL : Nat} {y : MethodName} {b : ByteArray} {n : Nat} {d mc ms : Nat} {a : Nat} {As : List Value} {hn : Nat}
    (hx : p.tables.exec = Jvm.exec) (hb : c.code = cc) (hml : c.maxLocals = nL) (hown : s.vm.findClass own = some m.cls) (hts : ∀ w ∈ al, w.before args s = true) (hC : CgX X l y b n none d mc ms D tys (.ref a :: As) ws post w') (hXw : ∀ U : State, s.WarmedH U.vm → X U) (hXf : ∀ (U : State) (g : JFrame) (mk : MethodId) (a : Array Value), X U → X (U.calling g mk a))
    (k1 : Cond.methodLink own index y ∈ al) (k2 : Cond.instanceMethod y ∈ al) (k4 : Cond.initialized y.cls ∈ al) (k5 : Cond.code y b n none ∈ al) (hy1 : y.name = "<init>")
    (hd : y.cls ≠ "java/lang/invoke/MethodHandle" ∧ y.cls ≠ "java/lang/invoke/VarHandle" ∧ (parseMethodDescriptor y.desc).map (fun d => d.parameters.length) = some hn) (hAs : As.length = hn) (hR : d + 1 ≤ R.frames ∧ 8 + (n + 11) + 27 * d ≤ R.locals)
    (hK : va_K D cls tys s) (hP : va_P D cls W0 H) (hD : va_D A0 W0) (hS : va_S A0 H0 H locs) (hA : ∀ q, H0.size ≤ q → A0 q)
    (isC isR : List Nat) (eC : isC.map (fun i => W0[i]?) = ws.map some) (nC : va_nd isC = true) (eR : isR.map (fun i => W0[i]?) = wr.map some) (nR : va_nd isR = true) (dR : ∀ i ∈ isR, i ∉ isC)
    (hl : ls.size = nL) (hst : st0 = As.reverse ++ .ref a :: rest) (hrm : (rest.map fun v => v.category).sum ≤ 8) (hdg : decode cc pc = .ok (.invokespecial index, 3)) (hf : cells + mc ≤ R.cells ∧ slots + ms ≤ R.slots)
    (kk : ∀ (v : Option Value) (u : S) (H1 : Heap) (locs1 : List Loc), post v u → va_P D cls (wr ++ w' u) H1 → va_D A0 (wr ++ w' u) → va_S A0 H0 H1 locs1 → W p l e R s m args below meth c H1 locs1 (cells + mc) (slots + ms) Q (F0 m (pc + 3) ls (v.toList ++ rest))) : W p l e R s m args below meth c H locs cells slots Q (F0 m pc ls st0) := by
  have hDc : va_D A0 ws := hD.sub isC nC eC
  have hPc : va_P D cls ws H := cg_sub hP isC eC
  have hpre := cg_pre (a := .ref a :: As) hK hPc hDc
  exact cg_go (ws := ws) (a := (Value.ref a :: As).toArray) (va_runI (As := As) (rest := rest) ⟨hx, hb, hml, hown, hts⟩ (hC H.size) ⟨callB_of hn hts (al_I k5) rfl rfl rfl (hts _ k4) (hts _ k1) hd hR, hy1, hts _ k2⟩ ⟨fun a U g mk q => ⟨(hpre.1 a U g mk ⟨q.1, q.2.1⟩).1, (hpre.1 a U g mk ⟨q.1, q.2.1⟩).2, hXf U g mk a q.2.2⟩, fun U hU hW => ⟨(hpre.2 U hU hW).1, (hpre.2 U hU hW).2, hXw U hW⟩⟩ rfl hAs hl hst (lv_room hrm) hdg hf) hP hD hS hA isC isR eC eR nR dR kk
/-- a call of a constructor by its contract -/
theorem cg_IN {own host : String} {index nL : Nat} {y : MethodName} {b : ByteArray} {n : Nat} {d mc ms : Nat} {a : Nat} {As : List Value} {hn : Nat}
    (hx : p.tables.exec = Jvm.exec) (hb : c.code = cc) (hml : c.maxLocals = nL) (hown : s.vm.findClass own = some m.cls) (hts : ∀ w ∈ al, w.before args s = true) (hC : Cg l y b n none d mc ms D tys (.ref a :: As) ws post w')
    (k1 : va_Nw (.methodLinkNest own index y host) s) (k2 : Cond.instanceMethod y ∈ al) (k4 : Cond.initialized y.cls ∈ al) (k5 : Cond.code y b n none ∈ al) (hy1 : y.name = "<init>")
    (hd : y.cls ≠ "java/lang/invoke/MethodHandle" ∧ y.cls ≠ "java/lang/invoke/VarHandle" ∧ (parseMethodDescriptor y.desc).map (fun d => d.parameters.length) = some hn) (hAs : As.length = hn) (hR : d + 1 ≤ R.frames ∧ 8 + (n + 11) + 27 * d ≤ R.locals)
    (hK : va_K D cls tys s) (hP : va_P D cls W0 H) (hD : va_D A0 W0) (hS : va_S A0 H0 H locs) (hA : ∀ q, H0.size ≤ q → A0 q)
    (isC isR : List Nat) (eC : isC.map (fun i => W0[i]?) = ws.map some) (nC : va_nd isC = true) (eR : isR.map (fun i => W0[i]?) = wr.map some) (nR : va_nd isR = true) (dR : ∀ i ∈ isR, i ∉ isC)
    (hl : ls.size = nL) (hst : st0 = As.reverse ++ .ref a :: rest) (hrm : (rest.map fun v => v.category).sum ≤ 8) (hdg : decode cc pc = .ok (.invokespecial index, 3)) (hf : cells + mc ≤ R.cells ∧ slots + ms ≤ R.slots)
    (kk : ∀ (v : Option Value) (u : S) (H1 : Heap) (locs1 : List Loc), post v u → va_P D cls (wr ++ w' u) H1 → va_D A0 (wr ++ w' u) → va_S A0 H0 H1 locs1 → W p l e R s m args below meth c H1 locs1 (cells + mc) (slots + ms) Q (F0 m (pc + 3) ls (v.toList ++ rest))) : W p l e R s m args below meth c H locs cells slots Q (F0 m pc ls st0) := by
  have hDc : va_D A0 ws := hD.sub isC nC eC
  have hPc : va_P D cls ws H := cg_sub hP isC eC
  have hpre := cg_pre (a := .ref a :: As) hK hPc hDc
  exact cg_go (ws := ws) (a := (Value.ref a :: As).toArray) (va_runIN (As := As) (rest := rest) ⟨hx, hb, hml, hown, hts⟩ (hC H.size) ⟨va_cnB hn hts (al_I k5) rfl rfl rfl k1 (hts _ k4) hd hR, hy1, hts _ k2⟩ hpre rfl hAs hl hst (lv_room hrm) hdg hf) hP hD hS hA isC isR eC eR nR dR kk
/-- a new row of k references -/
theorem wa_newq {own C : String} {index : Nat} {cX : ClassId} (hx : p.tables.exec = Jvm.exec) (hb : c.code = cc) (hown : s.vm.findClass own = some m.cls) (hcl : (Cond.classLink own index C).before args s = true) (hover : va_AO C s) (hK : va_K D cls tys s) (t0 : Nat) (ht : tys[t0]? = some (cX, .object C)) (hP : va_P D cls ws H) (hD : va_D A ws) (hS : va_S A H0 H locs) (hA : ∀ q, H0.size ≤ q → A q) {k : Nat} (hk : k ≤ 4096) (hc : cells + 1 ≤ R.cells) (hs : slots + k ≤ R.slots) (hdg : decode cc pc = .ok (.anewarray index, 3))
    (kk : ∀ (q : Nat) (H1 : Heap), va_P D cls (ws ++ [(q, .inl (cX, k, .inr (.inr (.inr (.inr (fun _ => none))))))]) H1 → va_D A (ws ++ [(q, .inl (cX, k, .inr (.inr (.inr (.inr (fun _ => none))))))]) → va_S A H0 H1 locs → W p l e R s m args below meth c H1 locs (cells + 1) (slots + k) Q (F0 m (pc + 3) ls (.ref q :: rest))) : W p l e R s m args below meth c H locs cells slots Q (F0 m pc ls (.int (nI k) :: rest)) := by
  refine va_newq hx hb hown hcl hover hK hP hD hS hA (nI_pos (by omega)) (nI_clamp (by omega)) (by omega) hc hs hdg (fun q cA H1 hK1 hP1 hD1 hS1 => ?_)
  obtain ⟨kA, comp, _, _, _, h1⟩ := (hK1.2 tys.length (cA, .object C) (by simp)).2
  obtain ⟨kB, comp2, _, _, _, h2⟩ := (hK.2 t0 _ ht).2
  have h3 : cA = cX := Option.some.inj (h1.symm.trans h2)
  subst h3
  exact kk q H1 hP1 hD1 hS1
theorem wa_ast {a : Nat} (hx : p.tables.exec = Jvm.exec) (hb : c.code = cc) (hK : va_K D cls tys s) (hP : va_P D cls ws H) (hD : va_D A ws) (hS : va_S A H0 H locs) (q0 t0 qk ci : Nat) {cA : ClassId} {r : vw_C} {n v : Nat} {vs : List Value} {f : Nat → Option Nat} (ha : ws[q0]? = some (a, .inl (cA, n, .inr (.inr (.inr (.inr f)))))) (ht : tys[t0]? = some (cA, .object r.1)) (hv : ws[qk]? = some (v, .inr (ci, vs))) (hc : cls[ci]? = some r) {k : Nat} (hk : k < n) (hn : n < 2 ^ 31) (hdg : decode cc pc = .ok (.aastore, 1))
    (kk : ∀ (H1 : Heap) (locs1 : List Loc), va_P D cls (ws.set q0 (a, .inl (cA, n, .inr (.inr (.inr (.inr (va_up f k (some v)))))))) H1 → va_D A (ws.set q0 (a, .inl (cA, n, .inr (.inr (.inr (.inr (va_up f k (some v)))))))) → va_S A H0 H1 locs1 → W p l e R s m args below meth c H1 locs1 cells slots Q (F0 m (pc + 1) ls rest)) : W p l e R s m args below meth c H locs cells slots Q (F0 m pc ls (.ref v :: .int (nI k) :: .ref a :: rest)) := by
  refine va_astq hx hb hK hP hD hS q0 t0 qk ci ha ht hv hc (vp_in_nI hk hn) hdg ?_
  rw [nI_clamp (by omega)]
  exact kk
end CX
set_option maxRecDepth 100000 in
set_option maxHeartbeats 4000000 in
theorem c_hh_init (l : Launch) (D : va_G) (cI cT cP : ClassId) (h : Nat) : CgX (va_AO "HashHall$Table") l y_hh_init b_hh_init 2 (none) 2 22 321 D (ty3 cI cT cP) [.ref h] ([(h, .inr (1, [.null]))]) (fun (v : Option Value) (u : Nat × (Nat → Option Nat) × Nat × Nat × Nat × TB × TB × TB) => v = none ∧ u.2.1 0 = some u.2.2.1 ∧ u.2.1 1 = some u.2.2.2.1 ∧ u.2.1 2 = some u.2.2.2.2.1 ∧ TL 0 [] u.2.2.2.2.2.1 ∧ TL 0 [] u.2.2.2.2.2.2.1 ∧ TL 0 [] u.2.2.2.2.2.2.2) (fun u => [(h, .inr (1, [.ref u.1])), (u.1, .inl (cT, 3, .inr (.inr (.inr (.inr u.2.1)))))] ++ (tw cI u.2.2.1 (decide (0 = 2)) 0 u.2.2.2.2.2.1) ++ (tw cI u.2.2.2.1 (decide (1 = 2)) 0 u.2.2.2.2.2.2.1) ++ (tw cI u.2.2.2.2.1 (decide (2 = 2)) 0 u.2.2.2.2.2.2.2)) := by
  refine cg_enterX (by decide +kernel) (Nat.le_of_ble_eq_true rfl) ?_
  intro p e s m below meth c args hx hb hr hlk hml hown hin hts hXs A hA hK hP hD hS ls hl Q hQ
  have hl : lv_has ls 2 [(0, .ref h)] := hl
  have hP : va_P D cls ([(h, .inr (1, [.null]))]) s.heap := hP
  have hD : va_D A ([(h, .inr (1, [.null]))]) := hD
  refine lv_aload_n hx hb d_hh_init_0 rfl (lv_at hl 0 rfl) ?_
  refine W.objInit hx hb hown (hts _ km_hh_3) (hts _ ki_jo_init) (hts _ kc_jo_init) rfl (by rw [hml]; exact hl.1) rfl d_hh_init_1 (Nat.le_of_ble_eq_true rfl) (Nat.le_of_ble_eq_true rfl) ?_
  refine W.eq (g2 := F0 m 4 ls []) rfl ?_
  refine lv_aload_n hx hb d_hh_init_4 rfl (lv_at hl 0 rfl) ?_
  refine lv_iconst (v := 3) hx hb d_hh_init_5 (by decide) ?_
  refine tp_i (y := nI 3) rfl ?_
  refine wa_newq (k := 3) hx hb hown (hts _ kl_hh_9) hXs hK 1 rfl hP hD hS hA (by decide) (by decide) (by decide) d_hh_init_6 (fun r H hP hD hS => ?_)
  have hP : va_P D cls ([(h, .inr (1, [.null])), (r, .inl (cT, 3, .inr (.inr (.inr (.inr (fun _ => none))))))]) H := hP
  have hD : va_D A ([(h, .inr (1, [.null])), (r, .inl (cT, 3, .inr (.inr (.inr (.inr (fun _ => none))))))]) := hD
  refine va_putF (D := D) (ci := 1) (v := .ref r) (ty := .array (.object "HashHall$Table")) (C := R_hh) (T := F_hh) (N := 1) hx hb hts i_hh t_hh t_hh_ok n_hh hown hK hP hD hS 0 rfl rfl 0 (by decide) (hts _ kf_hh_11) (fun _ h9 => h9) rfl hin rfl (by decide +kernel) rfl rfl (Nat.le_of_ble_eq_true rfl) d_hh_init_9 (fun H locs hP hD hS => ?_)
  have hP : va_P D cls ([(h, .inr (1, [.ref r])), (r, .inl (cT, 3, .inr (.inr (.inr (.inr (fun _ => none))))))]) H := hP
  have hD : va_D A ([(h, .inr (1, [.ref r])), (r, .inl (cT, 3, .inr (.inr (.inr (.inr (fun _ => none))))))]) := hD
  refine lv_iconst (v := 0) hx hb d_hh_init_12 (by decide) ?_
  refine lv_istore_n (lv' := [(1, .int 0), (0, .ref h)]) hx hb d_hh_init_13 rfl hl (by decide) rfl (fun ls hl => ?_)
  refine lv_iload_n hx hb d_hh_init_14 rfl (lv_at hl 0 rfl) ?_
  refine lv_iconst (v := 3) hx hb d_hh_init_15 (by decide) ?_
  refine lv_icmp_ge (tgt := 48) hx hb d_hh_init_16 (by decide) (fun z9 => absurd z9 (by decide)) (fun _ => ?_)
  refine lv_aload_n hx hb d_hh_init_19 rfl (lv_at hl 1 rfl) ?_
  refine va_get (D := D) (ci := 1) (v := .ref r) (C := R_hh) (T := F_hh) (N := 1) hx hb hts i_hh hown hK hP 0 rfl rfl 0 (by decide) (hts _ kf_hh_11) (fun _ h9 => h9) rfl d_hh_init_20 ?_
  refine lv_iload_n hx hb d_hh_init_23 rfl (lv_at hl 0 rfl) ?_
  refine va_new (D := D) (ci := 0) (fs := [.int 0, .int 0, .null, .null, .null, .null, .null, .null, .int 0, .int 0]) (C := R_tb) (T := F_tb) (N := 10) hx hb hts i_tb t_tb t_tb_ok hown (hts _ kl_hh_9) (hts _ kb_tb) (hts _ kn_tb) hK hP hD hS hA rfl (fun j hj => by rcases (show j = 0 ∨ j = 1 ∨ j = 2 ∨ j = 3 ∨ j = 4 ∨ j = 5 ∨ j = 6 ∨ j = 7 ∨ j = 8 ∨ j = 9 by omega) with rfl | rfl | rfl | rfl | rfl | rfl | rfl | rfl | rfl | rfl <;> rfl) (by decide) (by decide) d_hh_init_24 (fun a0 H hP hD hS => ?_)
  have hP : va_P D cls ([(h, .inr (1, [.ref r])), (r, .inl (cT, 3, .inr (.inr (.inr (.inr (fun _ => none)))))), (a0, .inr (0, [.int 0, .int 0, .null, .null, .null, .null, .null, .null, .int 0, .int 0]))]) H := hP
  have hD : va_D A ([(h, .inr (1, [.ref r])), (r, .inl (cT, 3, .inr (.inr (.inr (.inr (fun _ => none)))))), (a0, .inr (0, [.int 0, .int 0, .null, .null, .null, .null, .null, .null, .int 0, .int 0]))]) := hD
  refine lv_dup hx hb d_hh_init_27 rfl ?_
  refine lv_iload_n hx hb d_hh_init_28 rfl (lv_at hl 0 rfl) ?_
  refine lv_iconst (v := 2) hx hb d_hh_init_29 (by decide) ?_
  refine lv_icmp_ne (tgt := 37) hx hb d_hh_init_30 (by decide) (fun _ => ?_) (fun z9 => absurd z9 (by decide))
  refine lv_iconst (v := 0) hx hb d_hh_init_37 (by decide) ?_
  refine tp_i (y := mvI (decide (0 = 2))) rfl ?_
  refine cg_I (hn := 1) (As := [.int (mvI (decide (0 = 2)))]) (rest := [.ref a0, .int 0, .ref r]) (wr := [(h, .inr (1, [.ref r])), (r, .inl (cT, 3, .inr (.inr (.inr (.inr (fun _ => none))))))]) hx hb hml hown hts (c_tb_init l D cI cT cP a0 (decide (0 = 2))) km_hh_15 ki_tb_init kn_tb kc_tb_init rfl (by decide +kernel) rfl ⟨Nat.le_of_ble_eq_true rfl, Nat.le_of_ble_eq_true rfl⟩ hK hP hD hS hA [2] [0, 1] rfl (by decide) rfl (by decide) (by decide) hl.1 rfl (Nat.le_of_ble_eq_true rfl) d_hh_init_38 ⟨by decide, by decide⟩ (fun v u0 H locs hpost hP hD hS => ?_)
  obtain ⟨e9, hT0⟩ := hpost
  subst e9
  refine W.eq (g2 := F0 m 41 ls [.ref a0, .int 0, .ref r]) rfl ?_
  have hP : va_P D cls ([(h, .inr (1, [.ref r])), (r, .inl (cT, 3, .inr (.inr (.inr (.inr (fun _ => none))))))] ++ (tw cI a0 (decide (0 = 2)) 0 u0)) H := hP
  have hD : va_D A ([(h, .inr (1, [.ref r])), (r, .inl (cT, 3, .inr (.inr (.inr (.inr (fun _ => none))))))] ++ (tw cI a0 (decide (0 = 2)) 0 u0)) := hD
  refine W.eq (g2 := F0 m 41 ls [.ref a0, .int (nI 0), .ref r]) rfl ?_
  refine wa_ast (k := 0) hx hb hK hP hD hS 1 1 2 0 rfl rfl rfl rfl (by decide) (by decide) d_hh_init_41 (fun H locs hP hD hS => ?_)
  have hP : va_P D cls ([(h, .inr (1, [.ref r])), (r, .inl (cT, 3, .inr (.inr (.inr (.inr (va_up (fun _ => none) 0 (some a0)))))))] ++ (tw cI a0 (decide (0 = 2)) 0 u0)) H := hP
  have hD : va_D A ([(h, .inr (1, [.ref r])), (r, .inl (cT, 3, .inr (.inr (.inr (.inr (va_up (fun _ => none) 0 (some a0)))))))] ++ (tw cI a0 (decide (0 = 2)) 0 u0)) := hD
  refine lv_iinc (v := 1) (lv' := [(1, .int 1), (0, .ref h)]) hx hb d_hh_init_42 hl (k := 0) rfl (by decide) (by decide) rfl (fun ls hl => ?_)
  refine lv_goto (tgt := 14) hx hb d_hh_init_45 (by decide) ?_
  refine lv_iload_n hx hb d_hh_init_14 rfl (lv_at hl 0 rfl) ?_
  refine lv_iconst (v := 3) hx hb d_hh_init_15 (by decide) ?_
  refine lv_icmp_ge (tgt := 48) hx hb d_hh_init_16 (by decide) (fun z9 => absurd z9 (by decide)) (fun _ => ?_)
  refine lv_aload_n hx hb d_hh_init_19 rfl (lv_at hl 1 rfl) ?_
  refine va_get (D := D) (ci := 1) (v := .ref r) (C := R_hh) (T := F_hh) (N := 1) hx hb hts i_hh hown hK hP 0 rfl rfl 0 (by decide) (hts _ kf_hh_11) (fun _ h9 => h9) rfl d_hh_init_20 ?_
  refine lv_iload_n hx hb d_hh_init_23 rfl (lv_at hl 0 rfl) ?_
  refine va_new (D := D) (ci := 0) (fs := [.int 0, .int 0, .null, .null, .null, .null, .null, .null, .int 0, .int 0]) (C := R_tb) (T := F_tb) (N := 10) hx hb hts i_tb t_tb t_tb_ok hown (hts _ kl_hh_9) (hts _ kb_tb) (hts _ kn_tb) hK hP hD hS hA rfl (fun j hj => by rcases (show j = 0 ∨ j = 1 ∨ j = 2 ∨ j = 3 ∨ j = 4 ∨ j = 5 ∨ j = 6 ∨ j = 7 ∨ j = 8 ∨ j = 9 by omega) with rfl | rfl | rfl | rfl | rfl | rfl | rfl | rfl | rfl | rfl <;> rfl) (by decide) (by decide) d_hh_init_24 (fun a1 H hP hD hS => ?_)
  have hP : va_P D cls ([(h, .inr (1, [.ref r])), (r, .inl (cT, 3, .inr (.inr (.inr (.inr (va_up (fun _ => none) 0 (some a0)))))))] ++ (tw cI a0 (decide (0 = 2)) 0 u0) ++ [(a1, .inr (0, [.int 0, .int 0, .null, .null, .null, .null, .null, .null, .int 0, .int 0]))]) H := hP
  have hD : va_D A ([(h, .inr (1, [.ref r])), (r, .inl (cT, 3, .inr (.inr (.inr (.inr (va_up (fun _ => none) 0 (some a0)))))))] ++ (tw cI a0 (decide (0 = 2)) 0 u0) ++ [(a1, .inr (0, [.int 0, .int 0, .null, .null, .null, .null, .null, .null, .int 0, .int 0]))]) := hD
  refine lv_dup hx hb d_hh_init_27 rfl ?_
  refine lv_iload_n hx hb d_hh_init_28 rfl (lv_at hl 0 rfl) ?_
  refine lv_iconst (v := 2) hx hb d_hh_init_29 (by decide) ?_
  refine lv_icmp_ne (tgt := 37) hx hb d_hh_init_30 (by decide) (fun _ => ?_) (fun z9 => absurd z9 (by decide))
  refine lv_iconst (v := 0) hx hb d_hh_init_37 (by decide) ?_
  refine tp_i (y := mvI (decide (1 = 2))) rfl ?_
  refine cg_I (hn := 1) (As := [.int (mvI (decide (1 = 2)))]) (rest := [.ref a1, .int 1, .ref r]) (wr := [(h, .inr (1, [.ref r])), (r, .inl (cT, 3, .inr (.inr (.inr (.inr (va_up (fun _ => none) 0 (some a0)))))))] ++ (tw cI a0 (decide (0 = 2)) 0 u0)) hx hb hml hown hts (c_tb_init l D cI cT cP a1 (decide (1 = 2))) km_hh_15 ki_tb_init kn_tb kc_tb_init rfl (by decide +kernel) rfl ⟨Nat.le_of_ble_eq_true rfl, Nat.le_of_ble_eq_true rfl⟩ hK hP hD hS hA [9] [0, 1, 2, 3, 4, 5, 6, 7, 8] rfl (by decide) rfl (by decide) (by decide) hl.1 rfl (Nat.le_of_ble_eq_true rfl) d_hh_init_38 ⟨by decide, by decide⟩ (fun v u1 H locs hpost hP hD hS => ?_)
  obtain ⟨e9, hT1⟩ := hpost
  subst e9
  refine W.eq (g2 := F0 m 41 ls [.ref a1, .int 1, .ref r]) rfl ?_
  have hP : va_P D cls ([(h, .inr (1, [.ref r])), (r, .inl (cT, 3, .inr (.inr (.inr (.inr (va_up (fun _ => none) 0 (some a0)))))))] ++ (tw cI a0 (decide (0 = 2)) 0 u0) ++ (tw cI a1 (decide (1 = 2)) 0 u1)) H := hP
  have hD : va_D A ([(h, .inr (1, [.ref r])), (r, .inl (cT, 3, .inr (.inr (.inr (.inr (va_up (fun _ => none) 0 (some a0)))))))] ++ (tw cI a0 (decide (0 = 2)) 0 u0) ++ (tw cI a1 (decide (1 = 2)) 0 u1)) := hD
  refine W.eq (g2 := F0 m 41 ls [.ref a1, .int (nI 1), .ref r]) rfl ?_
  refine wa_ast (k := 1) hx hb hK hP hD hS 1 1 9 0 rfl rfl rfl rfl (by decide) (by decide) d_hh_init_41 (fun H locs hP hD hS => ?_)
  have hP : va_P D cls ([(h, .inr (1, [.ref r])), (r, .inl (cT, 3, .inr (.inr (.inr (.inr (va_up (va_up (fun _ => none) 0 (some a0)) 1 (some a1)))))))] ++ (tw cI a0 (decide (0 = 2)) 0 u0) ++ (tw cI a1 (decide (1 = 2)) 0 u1)) H := hP
  have hD : va_D A ([(h, .inr (1, [.ref r])), (r, .inl (cT, 3, .inr (.inr (.inr (.inr (va_up (va_up (fun _ => none) 0 (some a0)) 1 (some a1)))))))] ++ (tw cI a0 (decide (0 = 2)) 0 u0) ++ (tw cI a1 (decide (1 = 2)) 0 u1)) := hD
  refine lv_iinc (v := 2) (lv' := [(1, .int 2), (0, .ref h)]) hx hb d_hh_init_42 hl (k := 0) rfl (by decide) (by decide) rfl (fun ls hl => ?_)
  refine lv_goto (tgt := 14) hx hb d_hh_init_45 (by decide) ?_
  refine lv_iload_n hx hb d_hh_init_14 rfl (lv_at hl 0 rfl) ?_
  refine lv_iconst (v := 3) hx hb d_hh_init_15 (by decide) ?_
  refine lv_icmp_ge (tgt := 48) hx hb d_hh_init_16 (by decide) (fun z9 => absurd z9 (by decide)) (fun _ => ?_)
  refine lv_aload_n hx hb d_hh_init_19 rfl (lv_at hl 1 rfl) ?_
  refine va_get (D := D) (ci := 1) (v := .ref r) (C := R_hh) (T := F_hh) (N := 1) hx hb hts i_hh hown hK hP 0 rfl rfl 0 (by decide) (hts _ kf_hh_11) (fun _ h9 => h9) rfl d_hh_init_20 ?_
  refine lv_iload_n hx hb d_hh_init_23 rfl (lv_at hl 0 rfl) ?_
  refine va_new (D := D) (ci := 0) (fs := [.int 0, .int 0, .null, .null, .null, .null, .null, .null, .int 0, .int 0]) (C := R_tb) (T := F_tb) (N := 10) hx hb hts i_tb t_tb t_tb_ok hown (hts _ kl_hh_9) (hts _ kb_tb) (hts _ kn_tb) hK hP hD hS hA rfl (fun j hj => by rcases (show j = 0 ∨ j = 1 ∨ j = 2 ∨ j = 3 ∨ j = 4 ∨ j = 5 ∨ j = 6 ∨ j = 7 ∨ j = 8 ∨ j = 9 by omega) with rfl | rfl | rfl | rfl | rfl | rfl | rfl | rfl | rfl | rfl <;> rfl) (by decide) (by decide) d_hh_init_24 (fun a2 H hP hD hS => ?_)
  have hP : va_P D cls ([(h, .inr (1, [.ref r])), (r, .inl (cT, 3, .inr (.inr (.inr (.inr (va_up (va_up (fun _ => none) 0 (some a0)) 1 (some a1)))))))] ++ (tw cI a0 (decide (0 = 2)) 0 u0) ++ (tw cI a1 (decide (1 = 2)) 0 u1) ++ [(a2, .inr (0, [.int 0, .int 0, .null, .null, .null, .null, .null, .null, .int 0, .int 0]))]) H := hP
  have hD : va_D A ([(h, .inr (1, [.ref r])), (r, .inl (cT, 3, .inr (.inr (.inr (.inr (va_up (va_up (fun _ => none) 0 (some a0)) 1 (some a1)))))))] ++ (tw cI a0 (decide (0 = 2)) 0 u0) ++ (tw cI a1 (decide (1 = 2)) 0 u1) ++ [(a2, .inr (0, [.int 0, .int 0, .null, .null, .null, .null, .null, .null, .int 0, .int 0]))]) := hD
  refine lv_dup hx hb d_hh_init_27 rfl ?_
  refine lv_iload_n hx hb d_hh_init_28 rfl (lv_at hl 0 rfl) ?_
  refine lv_iconst (v := 2) hx hb d_hh_init_29 (by decide) ?_
  refine lv_icmp_ne (tgt := 37) hx hb d_hh_init_30 (by decide) (fun z9 => absurd rfl z9) (fun _ => ?_)
  refine lv_iconst (v := 1) hx hb d_hh_init_33 (by decide) ?_
  refine lv_goto (tgt := 38) hx hb d_hh_init_34 (by decide) ?_
  refine tp_i (y := mvI (decide (2 = 2))) rfl ?_
  refine cg_I (hn := 1) (As := [.int (mvI (decide (2 = 2)))]) (rest := [.ref a2, .int 2, .ref r]) (wr := [(h, .inr (1, [.ref r])), (r, .inl (cT, 3, .inr (.inr (.inr (.inr (va_up (va_up (fun _ => none) 0 (some a0)) 1 (some a1)))))))] ++ (tw cI a0 (decide (0 = 2)) 0 u0) ++ (tw cI a1 (decide (1 = 2)) 0 u1)) hx hb hml hown hts (c_tb_init l D cI cT cP a2 (decide (2 = 2))) km_hh_15 ki_tb_init kn_tb kc_tb_init rfl (by decide +kernel) rfl ⟨Nat.le_of_ble_eq_true rfl, Nat.le_of_ble_eq_true rfl⟩ hK hP hD hS hA [16] [0, 1, 2, 3, 4, 5, 6, 7, 8, 9, 10, 11, 12, 13, 14, 15] rfl (by decide) rfl (by decide) (by decide) hl.1 rfl (Nat.le_of_ble_eq_true rfl) d_hh_init_38 ⟨by decide, by decide⟩ (fun v u2 H locs hpost hP hD hS => ?_)
  obtain ⟨e9, hT2⟩ := hpost
  subst e9
  refine W.eq (g2 := F0 m 41 ls [.ref a2, .int 2, .ref r]) rfl ?_
  have hP : va_P D cls ([(h, .inr (1, [.ref r])), (r, .inl (cT, 3, .inr (.inr (.inr (.inr (va_up (va_up (fun _ => none) 0 (some a0)) 1 (some a1)))))))] ++ (tw cI a0 (decide (0 = 2)) 0 u0) ++ (tw cI a1 (decide (1 = 2)) 0 u1) ++ (tw cI a2 (decide (2 = 2)) 0 u2)) H := hP
  have hD : va_D A ([(h, .inr (1, [.ref r])), (r, .inl (cT, 3, .inr (.inr (.inr (.inr (va_up (va_up (fun _ => none) 0 (some a0)) 1 (some a1)))))))] ++ (tw cI a0 (decide (0 = 2)) 0 u0) ++ (tw cI a1 (decide (1 = 2)) 0 u1) ++ (tw cI a2 (decide (2 = 2)) 0 u2)) := hD
  refine W.eq (g2 := F0 m 41 ls [.ref a2, .int (nI 2), .ref r]) rfl ?_
  refine wa_ast (k := 2) hx hb hK hP hD hS 1 1 16 0 rfl rfl rfl rfl (by decide) (by decide) d_hh_init_41 (fun H locs hP hD hS => ?_)
  have hP : va_P D cls ([(h, .inr (1, [.ref r])), (r, .inl (cT, 3, .inr (.inr (.inr (.inr (va_up (va_up (va_up (fun _ => none) 0 (some a0)) 1 (some a1)) 2 (some a2)))))))] ++ (tw cI a0 (decide (0 = 2)) 0 u0) ++ (tw cI a1 (decide (1 = 2)) 0 u1) ++ (tw cI a2 (decide (2 = 2)) 0 u2)) H := hP
  have hD : va_D A ([(h, .inr (1, [.ref r])), (r, .inl (cT, 3, .inr (.inr (.inr (.inr (va_up (va_up (va_up (fun _ => none) 0 (some a0)) 1 (some a1)) 2 (some a2)))))))] ++ (tw cI a0 (decide (0 = 2)) 0 u0) ++ (tw cI a1 (decide (1 = 2)) 0 u1) ++ (tw cI a2 (decide (2 = 2)) 0 u2)) := hD
  refine lv_iinc (v := 3) (lv' := [(1, .int 3), (0, .ref h)]) hx hb d_hh_init_42 hl (k := 0) rfl (by decide) (by decide) rfl (fun ls hl => ?_)
  refine lv_goto (tgt := 14) hx hb d_hh_init_45 (by decide) ?_
  refine lv_iload_n hx hb d_hh_init_14 rfl (lv_at hl 0 rfl) ?_
  refine lv_iconst (v := 3) hx hb d_hh_init_15 (by decide) ?_
  refine lv_icmp_ge (tgt := 48) hx hb d_hh_init_16 (by decide) (fun _ => ?_) (fun z9 => absurd (by decide) z9)
  refine W.widen (k := 22) (n := 321) (by decide) (by decide) ?_
  exact cg_vret (u := (r, va_up (va_up (va_up (fun _ => none) 0 (some a0)) 1 (some a1)) 2 (some a2), a0, a1, a2, u0, u1, u2)) hQ hx hb hr hlk hK hP hD hS ⟨rfl, rfl, rfl, rfl, hT0, hT1, hT2⟩ d_hh_init_48
set_option maxRecDepth 100000 in
set_option maxHeartbeats 4000000 in
theorem c_md_init (l : Launch) (D : va_G) (cI cT cP : ClassId) (h : Nat) : CgX (fun U => va_AO "HashHallModel$Pairs" U ∧ va_Nw (.methodLinkNest "HashHallModel" 11 y_pr_init "HashHallModel") U) l y_md_init b_md_init 1 (none) 2 19 273 D (ty3 cI cT cP) [.ref h] ([(h, .inr (3, [.null]))]) (fun (v : Option Value) (u : Nat × (Nat → Option Nat) × Nat × Nat × Nat × PB × PB × PB) => v = none ∧ u.2.1 0 = some u.2.2.1 ∧ u.2.1 1 = some u.2.2.2.1 ∧ u.2.1 2 = some u.2.2.2.2.1 ∧ PL 0 [] u.2.2.2.2.2.1 ∧ PL 0 [] u.2.2.2.2.2.2.1 ∧ PL 0 [] u.2.2.2.2.2.2.2) (fun u => [(h, .inr (3, [.ref u.1])), (u.1, .inl (cP, 3, .inr (.inr (.inr (.inr u.2.1)))))] ++ (pw cI u.2.2.1 0 u.2.2.2.2.2.1) ++ (pw cI u.2.2.2.1 0 u.2.2.2.2.2.2.1) ++ (pw cI u.2.2.2.2.1 0 u.2.2.2.2.2.2.2)) := by
  refine cg_enterX (by decide +kernel) (Nat.le_of_ble_eq_true rfl) ?_
  intro p e s m below meth c args hx hb hr hlk hml hown hin hts hXs A hA hK hP hD hS ls hl Q hQ
  have hl : lv_has ls 1 [(0, .ref h)] := hl
  have hP : va_P D cls ([(h, .inr (3, [.null]))]) s.heap := hP
  have hD : va_D A ([(h, .inr (3, [.null]))]) := hD
  refine lv_aload_n hx hb d_md_init_0 rfl (lv_at hl 0 rfl) ?_
  refine W.objInit hx hb hown (hts _ km_md_3) (hts _ ki_jo_init) (hts _ kc_jo_init) rfl (by rw [hml]; exact hl.1) rfl d_md_init_1 (Nat.le_of_ble_eq_true rfl) (Nat.le_of_ble_eq_true rfl) ?_
  refine W.eq (g2 := F0 m 4 ls []) rfl ?_
  refine lv_aload_n hx hb d_md_init_4 rfl (lv_at hl 0 rfl) ?_
  refine lv_iconst (v := 3) hx hb d_md_init_5 (by decide) ?_
  refine tp_i (y := nI 3) rfl ?_
  refine wa_newq (k := 3) hx hb hown (hts _ kl_md_9) hXs.1 hK 2 rfl hP hD hS hA (by decide) (by decide) (by decide) d_md_init_6 (fun r H hP hD hS => ?_)
  have hP : va_P D cls ([(h, .inr (3, [.null])), (r, .inl (cP, 3, .inr (.inr (.inr (.inr (fun _ => none))))))]) H := hP
  have hD : va_D A ([(h, .inr (3, [.null])), (r, .inl (cP, 3, .inr (.inr (.inr (.inr (fun _ => none))))))]) := hD
  refine lv_dup hx hb d_md_init_9 rfl ?_
  refine lv_iconst (v := 0) hx hb d_md_init_10 (by decide) ?_
  refine va_new (D := D) (ci := 2) (fs := [.null, .null, .null, .null, .null, .int 0, .int 0, .int 0, .int 0, .int 0]) (C := R_pr) (T := F_pr) (N := 10) hx hb hts i_pr t_pr t_pr_ok hown (hts _ kl_md_9) (hts _ kb_pr) (hts _ kn_pr) hK hP hD hS hA rfl (fun j hj => by rcases (show j = 0 ∨ j = 1 ∨ j = 2 ∨ j = 3 ∨ j = 4 ∨ j = 5 ∨ j = 6 ∨ j = 7 ∨ j = 8 ∨ j = 9 by omega) with rfl | rfl | rfl | rfl | rfl | rfl | rfl | rfl | rfl | rfl <;> rfl) (by decide) (by decide) d_md_init_11 (fun a0 H hP hD hS => ?_)
  have hP : va_P D cls ([(h, .inr (3, [.null])), (r, .inl (cP, 3, .inr (.inr (.inr (.inr (fun _ => none)))))), (a0, .inr (2, [.null, .null, .null, .null, .null, .int 0, .int 0, .int 0, .int 0, .int 0]))]) H := hP
  have hD : va_D A ([(h, .inr (3, [.null])), (r, .inl (cP, 3, .inr (.inr (.inr (.inr (fun _ => none)))))), (a0, .inr (2, [.null, .null, .null, .null, .null, .int 0, .int 0, .int 0, .int 0, .int 0]))]) := hD
  refine lv_dup hx hb d_md_init_14 rfl ?_
  refine cg_IN (hn := 0) (As := []) (rest := [.ref a0, .int 0, .ref r, .ref r, .ref h]) (wr := [(h, .inr (3, [.null])), (r, .inl (cP, 3, .inr (.inr (.inr (.inr (fun _ => none))))))]) hx hb hml hown hts (c_pr_init l D cI cT cP a0) hXs.2 ki_pr_init kn_pr kc_pr_init rfl (by decide +kernel) rfl ⟨Nat.le_of_ble_eq_true rfl, Nat.le_of_ble_eq_true rfl⟩ hK hP hD hS hA [2] [0, 1] rfl (by decide) rfl (by decide) (by decide) hl.1 rfl (Nat.le_of_ble_eq_true rfl) d_md_init_15 ⟨by decide, by decide⟩ (fun v u0 H locs hpost hP hD hS => ?_)
  obtain ⟨e9, hT0⟩ := hpost
  subst e9
  refine W.eq (g2 := F0 m 18 ls [.ref a0, .int (nI 0), .ref r, .ref r, .ref h]) rfl ?_
  have hP : va_P D cls ([(h, .inr (3, [.null])), (r, .inl (cP, 3, .inr (.inr (.inr (.inr (fun _ => none))))))] ++ (pw cI a0 0 u0)) H := hP
  have hD : va_D A ([(h, .inr (3, [.null])), (r, .inl (cP, 3, .inr (.inr (.inr (.inr (fun _ => none))))))] ++ (pw cI a0 0 u0)) := hD
  refine wa_ast (k := 0) hx hb hK hP hD hS 1 2 2 2 rfl rfl rfl rfl (by decide) (by decide) d_md_init_18 (fun H locs hP hD hS => ?_)
  have hP : va_P D cls ([(h, .inr (3, [.null])), (r, .inl (cP, 3, .inr (.inr (.inr (.inr (va_up (fun _ => none) 0 (some a0)))))))] ++ (pw cI a0 0 u0)) H := hP
  have hD : va_D A ([(h, .inr (3, [.null])), (r, .inl (cP, 3, .inr (.inr (.inr (.inr (va_up (fun _ => none) 0 (some a0)))))))] ++ (pw cI a0 0 u0)) := hD
  refine lv_dup hx hb d_md_init_19 rfl ?_
  refine lv_iconst (v := 1) hx hb d_md_init_20 (by decide) ?_
  refine va_new (D := D) (ci := 2) (fs := [.null, .null, .null, .null, .null, .int 0, .int 0, .int 0, .int 0, .int 0]) (C := R_pr) (T := F_pr) (N := 10) hx hb hts i_pr t_pr t_pr_ok hown (hts _ kl_md_9) (hts _ kb_pr) (hts _ kn_pr) hK hP hD hS hA rfl (fun j hj => by rcases (show j = 0 ∨ j = 1 ∨ j = 2 ∨ j = 3 ∨ j = 4 ∨ j = 5 ∨ j = 6 ∨ j = 7 ∨ j = 8 ∨ j = 9 by omega) with rfl | rfl | rfl | rfl | rfl | rfl | rfl | rfl | rfl | rfl <;> rfl) (by decide) (by decide) d_md_init_21 (fun a1 H hP hD hS => ?_)
  have hP : va_P D cls ([(h, .inr (3, [.null])), (r, .inl (cP, 3, .inr (.inr (.inr (.inr (va_up (fun _ => none) 0 (some a0)))))))] ++ (pw cI a0 0 u0) ++ [(a1, .inr (2, [.null, .null, .null, .null, .null, .int 0, .int 0, .int 0, .int 0, .int 0]))]) H := hP
  have hD : va_D A ([(h, .inr (3, [.null])), (r, .inl (cP, 3, .inr (.inr (.inr (.inr (va_up (fun _ => none) 0 (some a0)))))))] ++ (pw cI a0 0 u0) ++ [(a1, .inr (2, [.null, .null, .null, .null, .null, .int 0, .int 0, .int 0, .int 0, .int 0]))]) := hD
  refine lv_dup hx hb d_md_init_24 rfl ?_
  refine cg_IN (hn := 0) (As := []) (rest := [.ref a1, .int 1, .ref r, .ref r, .ref h]) (wr := [(h, .inr (3, [.null])), (r, .inl (cP, 3, .inr (.inr (.inr (.inr (va_up (fun _ => none) 0 (some a0)))))))] ++ (pw cI a0 0 u0)) hx hb hml hown hts (c_pr_init l D cI cT cP a1) hXs.2 ki_pr_init kn_pr kc_pr_init rfl (by decide +kernel) rfl ⟨Nat.le_of_ble_eq_true rfl, Nat.le_of_ble_eq_true rfl⟩ hK hP hD hS hA [8] [0, 1, 2, 3, 4, 5, 6, 7] rfl (by decide) rfl (by decide) (by decide) hl.1 rfl (Nat.le_of_ble_eq_true rfl) d_md_init_25 ⟨by decide, by decide⟩ (fun v u1 H locs hpost hP hD hS => ?_)
  obtain ⟨e9, hT1⟩ := hpost
  subst e9
  refine W.eq (g2 := F0 m 28 ls [.ref a1, .int (nI 1), .ref r, .ref r, .ref h]) rfl ?_
  have hP : va_P D cls ([(h, .inr (3, [.null])), (r, .inl (cP, 3, .inr (.inr (.inr (.inr (va_up (fun _ => none) 0 (some a0)))))))] ++ (pw cI a0 0 u0) ++ (pw cI a1 0 u1)) H := hP
  have hD : va_D A ([(h, .inr (3, [.null])), (r, .inl (cP, 3, .inr (.inr (.inr (.inr (va_up (fun _ => none) 0 (some a0)))))))] ++ (pw cI a0 0 u0) ++ (pw cI a1 0 u1)) := hD
  refine wa_ast (k := 1) hx hb hK hP hD hS 1 2 8 2 rfl rfl rfl rfl (by decide) (by decide) d_md_init_28 (fun H locs hP hD hS => ?_)
  have hP : va_P D cls ([(h, .inr (3, [.null])), (r, .inl (cP, 3, .inr (.inr (.inr (.inr (va_up (va_up (fun _ => none) 0 (some a0)) 1 (some a1)))))))] ++ (pw cI a0 0 u0) ++ (pw cI a1 0 u1)) H := hP
  have hD : va_D A ([(h, .inr (3, [.null])), (r, .inl (cP, 3, .inr (.inr (.inr (.inr (va_up (va_up (fun _ => none) 0 (some a0)) 1 (some a1)))))))] ++ (pw cI a0 0 u0) ++ (pw cI a1 0 u1)) := hD
  refine lv_dup hx hb d_md_init_29 rfl ?_
  refine lv_iconst (v := 2) hx hb d_md_init_30 (by decide) ?_
  refine va_new (D := D) (ci := 2) (fs := [.null, .null, .null, .null, .null, .int 0, .int 0, .int 0, .int 0, .int 0]) (C := R_pr) (T := F_pr) (N := 10) hx hb hts i_pr t_pr t_pr_ok hown (hts _ kl_md_9) (hts _ kb_pr) (hts _ kn_pr) hK hP hD hS hA rfl (fun j hj => by rcases (show j = 0 ∨ j = 1 ∨ j = 2 ∨ j = 3 ∨ j = 4 ∨ j = 5 ∨ j = 6 ∨ j = 7 ∨ j = 8 ∨ j = 9 by omega) with rfl | rfl | rfl | rfl | rfl | rfl | rfl | rfl | rfl | rfl <;> rfl) (by decide) (by decide) d_md_init_31 (fun a2 H hP hD hS => ?_)
  have hP : va_P D cls ([(h, .inr (3, [.null])), (r, .inl (cP, 3, .inr (.inr (.inr (.inr (va_up (va_up (fun _ => none) 0 (some a0)) 1 (some a1)))))))] ++ (pw cI a0 0 u0) ++ (pw cI a1 0 u1) ++ [(a2, .inr (2, [.null, .null, .null, .null, .null, .int 0, .int 0, .int 0, .int 0, .int 0]))]) H := hP
  have hD : va_D A ([(h, .inr (3, [.null])), (r, .inl (cP, 3, .inr (.inr (.inr (.inr (va_up (va_up (fun _ => none) 0 (some a0)) 1 (some a1)))))))] ++ (pw cI a0 0 u0) ++ (pw cI a1 0 u1) ++ [(a2, .inr (2, [.null, .null, .null, .null, .null, .int 0, .int 0, .int 0, .int 0, .int 0]))]) := hD
  refine lv_dup hx hb d_md_init_34 rfl ?_
  refine cg_IN (hn := 0) (As := []) (rest := [.ref a2, .int 2, .ref r, .ref r, .ref h]) (wr := [(h, .inr (3, [.null])), (r, .inl (cP, 3, .inr (.inr (.inr (.inr (va_up (va_up (fun _ => none) 0 (some a0)) 1 (some a1)))))))] ++ (pw cI a0 0 u0) ++ (pw cI a1 0 u1)) hx hb hml hown hts (c_pr_init l D cI cT cP a2) hXs.2 ki_pr_init kn_pr kc_pr_init rfl (by decide +kernel) rfl ⟨Nat.le_of_ble_eq_true rfl, Nat.le_of_ble_eq_true rfl⟩ hK hP hD hS hA [14] [0, 1, 2, 3, 4, 5, 6, 7, 8, 9, 10, 11, 12, 13] rfl (by decide) rfl (by decide) (by decide) hl.1 rfl (Nat.le_of_ble_eq_true rfl) d_md_init_35 ⟨by decide, by decide⟩ (fun v u2 H locs hpost hP hD hS => ?_)
  obtain ⟨e9, hT2⟩ := hpost
  subst e9
  refine W.eq (g2 := F0 m 38 ls [.ref a2, .int (nI 2), .ref r, .ref r, .ref h]) rfl ?_
  have hP : va_P D cls ([(h, .inr (3, [.null])), (r, .inl (cP, 3, .inr (.inr (.inr (.inr (va_up (va_up (fun _ => none) 0 (some a0)) 1 (some a1)))))))] ++ (pw cI a0 0 u0) ++ (pw cI a1 0 u1) ++ (pw cI a2 0 u2)) H := hP
  have hD : va_D A ([(h, .inr (3, [.null])), (r, .inl (cP, 3, .inr (.inr (.inr (.inr (va_up (va_up (fun _ => none) 0 (some a0)) 1 (some a1)))))))] ++ (pw cI a0 0 u0) ++ (pw cI a1 0 u1) ++ (pw cI a2 0 u2)) := hD
  refine wa_ast (k := 2) hx hb hK hP hD hS 1 2 14 2 rfl rfl rfl rfl (by decide) (by decide) d_md_init_38 (fun H locs hP hD hS => ?_)
  have hP : va_P D cls ([(h, .inr (3, [.null])), (r, .inl (cP, 3, .inr (.inr (.inr (.inr (va_up (va_up (va_up (fun _ => none) 0 (some a0)) 1 (some a1)) 2 (some a2)))))))] ++ (pw cI a0 0 u0) ++ (pw cI a1 0 u1) ++ (pw cI a2 0 u2)) H := hP
  have hD : va_D A ([(h, .inr (3, [.null])), (r, .inl (cP, 3, .inr (.inr (.inr (.inr (va_up (va_up (va_up (fun _ => none) 0 (some a0)) 1 (some a1)) 2 (some a2)))))))] ++ (pw cI a0 0 u0) ++ (pw cI a1 0 u1) ++ (pw cI a2 0 u2)) := hD
  refine va_putF (D := D) (ci := 3) (v := .ref r) (ty := .array (.object "HashHallModel$Pairs")) (C := R_md) (T := F_md) (N := 1) hx hb hts i_md t_md t_md_ok n_md hown hK hP hD hS 0 rfl rfl 0 (by decide) (hts _ kf_md_12) (fun _ h9 => h9) rfl hin rfl (by decide +kernel) rfl rfl (Nat.le_of_ble_eq_true rfl) d_md_init_39 (fun H locs hP hD hS => ?_)
  have hP : va_P D cls ([(h, .inr (3, [.ref r])), (r, .inl (cP, 3, .inr (.inr (.inr (.inr (va_up (va_up (va_up (fun _ => none) 0 (some a0)) 1 (some a1)) 2 (some a2)))))))] ++ (pw cI a0 0 u0) ++ (pw cI a1 0 u1) ++ (pw cI a2 0 u2)) H := hP
  have hD : va_D A ([(h, .inr (3, [.ref r])), (r, .inl (cP, 3, .inr (.inr (.inr (.inr (va_up (va_up (va_up (fun _ => none) 0 (some a0)) 1 (some a1)) 2 (some a2)))))))] ++ (pw cI a0 0 u0) ++ (pw cI a1 0 u1) ++ (pw cI a2 0 u2)) := hD
  refine W.widen (k := 19) (n := 273) (by decide) (by decide) ?_
  exact cg_vret (u := (r, va_up (va_up (va_up (fun _ => none) 0 (some a0)) 1 (some a1)) 2 (some a2), a0, a1, a2, u0, u1, u2)) hQ hx hb hr hlk hK hP hD hS ⟨rfl, rfl, rfl, rfl, hT0, hT1, hT2⟩ d_md_init_42
