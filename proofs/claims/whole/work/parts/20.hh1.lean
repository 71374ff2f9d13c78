-- HashHall (1): printed by wip/whole/gen/hh1.py
section HZ
variable {p : Program} {l : Launch} {e : Env} {R : Room} {s : State} {m : MethodId} {args : Array Value} {below : List Frame} {meth : Method} {c : Code} {H H0 : Heap} {locs : List Loc} {cells slots : Nat} {Q : State → Prop}
variable {cc : ByteArray} {pc : Nat} {ls : Array Slot} {rest : List Value} {D : va_G} {tys : List (ClassId × FieldType)} {ws : va_W}
/-- a row of references is read -/
theorem wa_ald {a b : Nat} (hx : p.tables.exec = Jvm.exec) (hb : c.code = cc) (hK : va_K D cls tys s) (hP : va_P D cls ws H) (q0 t0 : Nat) {cA : ClassId} {C : String} {n : Nat} {f : Nat → Option Nat} (ha : ws[q0]? = some (a, .inl (cA, n, .inr (.inr (.inr (.inr f)))))) (ht : tys[t0]? = some (cA, .object C)) {k : Nat} (hk : k < n) (hn : n < 2 ^ 31) (ef : f k = some b) (hdg : decode cc pc = .ok (.aaload, 1))
    (kk : W p l e R s m args below meth c H locs cells slots Q (F0 m (pc + 1) ls (.ref b :: rest))) : W p l e R s m args below meth c H locs cells slots Q (F0 m pc ls (.int (nI k) :: .ref a :: rest)) := by
  refine va_aldq hx hb hK hP q0 t0 ha ht (vp_in_nI hk hn) hdg ?_
  rw [nI_clamp (by omega), ef]
  exact kk
end HZ
/-- no map's number -/
def bad (q : Int32) : Prop := q < 0 ∨ nI 3 ≤ q
theorem bad_or (q : Int32) : bad q ∨ ∃ k, k < 3 ∧ q = nI k := by
  rcases pk_ix q (n := 3) (by decide) with h | h | h
  · exact Or.inl (Or.inl h)
  · exact Or.inl (Or.inr h)
  · exact Or.inr h
def gv (o : Int32) : Option Int32 → Int64
  | none => o.toInt64
  | some v => v.toInt64
theorem gv_an {o : Int32} {x : Option Int32} : gv o x = if an x = 1099511627776 then o.toInt64 else an x := by
  cases x with
  | none => rw [if_pos (an_none.mpr rfl)]; rfl
  | some v => rw [if_neg (fun h => by cases an_none.mp h)]; rfl
def hs (w x : Int32) (L : List (Int32 × Int32)) : Bool := if w = 0 then (lk x L).isSome else if w = 1 then hvl x L else false
set_option maxRecDepth 100000 in
set_option maxHeartbeats 4000000 in
/-- tableOf(km) -/
theorem c_hh_tableOf (l : Launch) (D : va_G) (cI cT cP : ClassId) (h r : Nat) (ft : Nat → Option Nat) (km : Nat) (hkm : km < 3) (a : Nat) (hft : ft km = some a)  : Cg l y_hh_tableOf b_hh_tableOf 2 (some (.object "HashHall$Table")) 0 0 0 D (ty3 cI cT cP) [.ref h, .int (nI km)] ([(h, .inr (1, [.ref r])), (r, .inl (cT, 3, .inr (.inr (.inr (.inr ft)))))]) (fun (v : Option Value) (u : Unit) => v = some (.ref a)) (fun u => [(h, .inr (1, [.ref r])), (r, .inl (cT, 3, .inr (.inr (.inr (.inr ft)))))]) := by
  refine cg_enter rfl (Nat.le_of_ble_eq_true rfl) ?_
  intro p e s m below meth c args hx hb hr hlk hml hown hin hts A hA hK hP hD hS ls hl Q hQ
  have hl : lv_has ls 2 [(0, .ref h), (1, .int (nI km))] := hl
  have hP : va_P D cls ([(h, .inr (1, [.ref r])), (r, .inl (cT, 3, .inr (.inr (.inr (.inr ft)))))]) s.heap := hP
  have hD : va_D A ([(h, .inr (1, [.ref r])), (r, .inl (cT, 3, .inr (.inr (.inr (.inr ft)))))]) := hD
  refine lv_iload_n hx hb d_hh_tableOf_0 rfl (lv_at hl 1 rfl) ?_
  refine lv_if_lt (tgt := 18) hx hb d_hh_tableOf_1 (by decide) (fun z9 => absurd z9 (nI_pos (by omega))) (fun _ => ?_)
  refine lv_iload_n hx hb d_hh_tableOf_4 rfl (lv_at hl 1 rfl) ?_
  refine lv_iconst (v := 3) hx hb d_hh_tableOf_5 (by decide) ?_
  refine lv_icmp_ge (tgt := 18) hx hb d_hh_tableOf_6 (by decide) (fun z9 => absurd z9 (nI_ge hkm (by decide))) (fun _ => ?_)
  refine lv_aload_n hx hb d_hh_tableOf_9 rfl (lv_at hl 0 rfl) ?_
  refine va_get (D := D) (ci := 1) (v := .ref r) (C := R_hh) (T := F_hh) (N := 1) hx hb hts i_hh hown hK hP 0 rfl rfl 0 (by decide) (hts _ kf_hh_11) (fun _ h9 => h9) rfl d_hh_tableOf_10 ?_
  refine lv_iload_n hx hb d_hh_tableOf_13 rfl (lv_at hl 1 rfl) ?_
  refine wa_ald (k := km) (b := a) hx hb hK hP 1 1 rfl rfl hkm (by decide) hft d_hh_tableOf_14 ?_
  refine lv_goto (tgt := 19) hx hb d_hh_tableOf_15 (by decide) ?_
  exact cg_aret (u := ()) hQ hx hb hr (Or.inl ⟨_, rfl⟩) (Or.inr ⟨_, rfl⟩) hlk hK hP hD hS rfl d_hh_tableOf_19
set_option maxRecDepth 100000 in
set_option maxHeartbeats 4000000 in
/-- tableOf of no map -/
theorem c_hh_tableOf_x (l : Launch) (D : va_G) (cI cT cP : ClassId) (h r : Nat) (q : Int32) (hq : bad q) : Cg l y_hh_tableOf b_hh_tableOf 2 (some (.object "HashHall$Table")) 0 0 0 D (ty3 cI cT cP) [.ref h, .int q] ([(h, .inr (1, [.ref r]))]) (fun (v : Option Value) (u : Unit) => v = some .null) (fun u => [(h, .inr (1, [.ref r]))]) := by
  refine cg_enter rfl (Nat.le_of_ble_eq_true rfl) ?_
  intro p e s m below meth c args hx hb hr hlk hml hown hin hts A hA hK hP hD hS ls hl Q hQ
  have hl : lv_has ls 2 [(0, .ref h), (1, .int q)] := hl
  have hP : va_P D cls ([(h, .inr (1, [.ref r]))]) s.heap := hP
  have hD : va_D A ([(h, .inr (1, [.ref r]))]) := hD
  refine lv_iload_n hx hb d_hh_tableOf_0 rfl (lv_at hl 1 rfl) ?_
  refine lv_if_lt (tgt := 18) hx hb d_hh_tableOf_1 (by decide) (fun c1 => ?_) (fun c1 => ?_)
  · refine lv_null hx hb d_hh_tableOf_18 ?_
    exact cg_aret (u := ()) hQ hx hb hr (Or.inl ⟨_, rfl⟩) (Or.inl rfl) hlk hK hP hD hS rfl d_hh_tableOf_19
  · refine lv_iload_n hx hb d_hh_tableOf_4 rfl (lv_at hl 1 rfl) ?_
    refine lv_iconst (v := 3) hx hb d_hh_tableOf_5 (by decide) ?_
    refine lv_icmp_ge (tgt := 18) hx hb d_hh_tableOf_6 (by decide) (fun _ => ?_) (fun z9 => absurd (hq.elim (fun z8 => absurd z8 c1) id) z9)
    refine lv_null hx hb d_hh_tableOf_18 ?_
    exact cg_aret (u := ()) hQ hx hb hr (Or.inl ⟨_, rfl⟩) (Or.inl rfl) hlk hK hP hD hS rfl d_hh_tableOf_19
set_option maxRecDepth 100000 in
set_option maxHeartbeats 4000000 in
/-- put -/
theorem c_hh_put (l : Launch) (D : va_G) (cI cT cP : ClassId) (h r : Nat) (ft : Nat → Option Nat) (km : Nat) (hkm : km < 3) (a : Nat) (hft : ft km = some a) (mv : Bool) (j : Nat) (L : List (Int32 × Int32)) (u0 : TB) (hL : TL j L u0) (k v0 : Int32) (hlen : L.length < 2047) : Cg l y_hh_put b_hh_put 5 (some .long) 5 (mcT j (njs j k L)) (msT j (njs j k L)) D (ty3 cI cT cP) [.ref h, .int (nI km), .int k, .int v0] ([(h, .inr (1, [.ref r])), (r, .inl (cT, 3, .inr (.inr (.inr (.inr ft)))))] ++ (tw cI a mv j u0)) (fun (v : Option Value) (u : TB) => v = some (.long (an (lk k L))) ∧ TL (njs j k L) (st mv k v0 L) u) (fun u => [(h, .inr (1, [.ref r])), (r, .inl (cT, 3, .inr (.inr (.inr (.inr ft)))))] ++ (tw cI a mv (njs j k L) u)) := by
  refine cg_enter rfl (Nat.le_of_ble_eq_true rfl) ?_
  intro p e s m below meth c args hx hb hr hlk hml hown hin hts A hA hK hP hD hS ls hl Q hQ
  have hl : lv_has ls 5 [(0, .ref h), (1, .int (nI km)), (2, .int k), (3, .int v0)] := hl
  have hP : va_P D cls ([(h, .inr (1, [.ref r])), (r, .inl (cT, 3, .inr (.inr (.inr (.inr ft)))))] ++ (tw cI a mv j u0)) s.heap := hP
  have hD : va_D A ([(h, .inr (1, [.ref r])), (r, .inl (cT, 3, .inr (.inr (.inr (.inr ft)))))] ++ (tw cI a mv j u0)) := hD
  refine lv_aload_n hx hb d_hh_put_0 rfl (lv_at hl 0 rfl) ?_
  refine lv_iload_n hx hb d_hh_put_1 rfl (lv_at hl 1 rfl) ?_
  refine cg_V (hn := 1) (As := [.int (nI km)]) (rest := []) (wr := tw cI a mv j u0) (q0 := 0) (ci := 1) hx hb hml hown hts (c_hh_tableOf l D cI cT cP h r ft km hkm a hft) km_hh_18 ki_hh_tableOf ks_hh_tableOf kn_hh kc_hh_tableOf (by decide +kernel) rfl ⟨Nat.le_of_ble_eq_true rfl, Nat.le_of_ble_eq_true rfl⟩ hK hP hD hS hA [0, 1] [2, 3, 4, 5, 6, 7, 8] rfl (by decide) rfl (by decide) (by decide) rfl rfl hl.1 rfl (Nat.le_of_ble_eq_true rfl) d_hh_put_2 ⟨Nat.zero_le _, Nat.zero_le _⟩ (fun v u H locs hpost hP hD hS => ?_)
  subst hpost
  refine W.eq (g2 := F0 m 5 ls [.ref a]) rfl ?_
  have hP : va_P D cls ((tw cI a mv j u0) ++ [(h, .inr (1, [.ref r])), (r, .inl (cT, 3, .inr (.inr (.inr (.inr ft)))))]) H := hP
  have hD : va_D A ((tw cI a mv j u0) ++ [(h, .inr (1, [.ref r])), (r, .inl (cT, 3, .inr (.inr (.inr (.inr ft)))))]) := hD
  have hP : va_P D cls ([(h, .inr (1, [.ref r])), (r, .inl (cT, 3, .inr (.inr (.inr (.inr ft)))))] ++ (tw cI a mv j u0)) H := hP.sub [7, 8, 0, 1, 2, 3, 4, 5, 6] rfl
  have hD : va_D A ([(h, .inr (1, [.ref r])), (r, .inl (cT, 3, .inr (.inr (.inr (.inr ft)))))] ++ (tw cI a mv j u0)) := hD.sub [7, 8, 0, 1, 2, 3, 4, 5, 6] (by decide) rfl
  refine lv_astore (lv' := [(4, .ref a), (0, .ref h), (1, .int (nI km)), (2, .int k), (3, .int v0)]) hx hb d_hh_put_5 hl (by decide) rfl (fun ls hl => ?_)
  refine lv_aload hx hb d_hh_put_7 (lv_at hl 0 rfl) ?_
  refine lv_ifnonnull (tgt := 18) hx hb d_hh_put_9 (by decide) ?_
  refine lv_aload hx hb d_hh_put_18 (lv_at hl 0 rfl) ?_
  refine lv_iload_n hx hb d_hh_put_20 rfl (lv_at hl 3 rfl) ?_
  refine lv_iload_n hx hb d_hh_put_21 rfl (lv_at hl 4 rfl) ?_
  refine cg_V (hn := 2) (As := [.int k, .int v0]) (rest := []) (wr := [(h, .inr (1, [.ref r])), (r, .inl (cT, 3, .inr (.inr (.inr (.inr ft)))))]) (q0 := 0) (ci := 0) hx hb hml hown hts (c_tb_store l D cI cT cP a mv j L u0 hL k v0 hlen) km_hh_24 ki_tb_store ks_tb_store kn_tb kc_tb_store (by decide +kernel) rfl ⟨Nat.le_of_ble_eq_true rfl, Nat.le_of_ble_eq_true rfl⟩ hK hP hD hS hA [2, 3, 4, 5, 6, 7, 8] [0, 1] rfl (by decide) rfl (by decide) (by decide) rfl rfl hl.1 rfl (Nat.le_of_ble_eq_true rfl) d_hh_put_22 ⟨by show 0 + _ ≤ _; rw [Nat.zero_add]; exact Nat.le_refl _, by show 0 + _ ≤ _; rw [Nat.zero_add]; exact Nat.le_refl _⟩ (fun v u H locs hpost hP hD hS => ?_)
  obtain ⟨e9, hT2⟩ := hpost
  subst e9
  refine W.eq (g2 := F0 m 25 ls [.long (an (lk k L))]) rfl ?_
  have hP : va_P D cls ([(h, .inr (1, [.ref r])), (r, .inl (cT, 3, .inr (.inr (.inr (.inr ft)))))] ++ (tw cI a mv (njs j k L) u)) H := hP
  have hD : va_D A ([(h, .inr (1, [.ref r])), (r, .inl (cT, 3, .inr (.inr (.inr (.inr ft)))))] ++ (tw cI a mv (njs j k L) u)) := hD
  refine W.widen (k := mcT j (njs j k L)) (n := msT j (njs j k L)) (Nat.le_of_eq (Nat.zero_add _)) (Nat.le_of_eq (Nat.zero_add _)) ?_
  exact cg_lret (u := u) hQ hx hb hr hlk hK hP hD hS (⟨rfl, hT2⟩) d_hh_put_25
set_option maxRecDepth 100000 in
set_option maxHeartbeats 4000000 in
theorem c_hh_put_x (l : Launch) (D : va_G) (cI cT cP : ClassId) (h r : Nat) (q : Int32) (hq : bad q) (k v0 : Int32) : Cg l y_hh_put b_hh_put 5 (some .long) 5 0 0 D (ty3 cI cT cP) [.ref h, .int q, .int k, .int v0] ([(h, .inr (1, [.ref r]))]) (fun (v : Option Value) (u : Unit) => v = some (.long 1099511627777)) (fun u => [(h, .inr (1, [.ref r]))]) := by
  refine cg_enter rfl (Nat.le_of_ble_eq_true rfl) ?_
  intro p e s m below meth c args hx hb hr hlk hml hown hin hts A hA hK hP hD hS ls hl Q hQ
  have hl : lv_has ls 5 [(0, .ref h), (1, .int q), (2, .int k), (3, .int v0)] := hl
  have hP : va_P D cls ([(h, .inr (1, [.ref r]))]) s.heap := hP
  have hD : va_D A ([(h, .inr (1, [.ref r]))]) := hD
  refine lv_aload_n hx hb d_hh_put_0 rfl (lv_at hl 0 rfl) ?_
  refine lv_iload_n hx hb d_hh_put_1 rfl (lv_at hl 1 rfl) ?_
  refine cg_V (hn := 1) (As := [.int q]) (rest := []) (wr := []) (q0 := 0) (ci := 1) hx hb hml hown hts (c_hh_tableOf_x l D cI cT cP h r q hq) km_hh_18 ki_hh_tableOf ks_hh_tableOf kn_hh kc_hh_tableOf (by decide +kernel) rfl ⟨Nat.le_of_ble_eq_true rfl, Nat.le_of_ble_eq_true rfl⟩ hK hP hD hS hA [0] [] rfl (by decide) rfl (by decide) (by decide) rfl rfl hl.1 rfl (Nat.le_of_ble_eq_true rfl) d_hh_put_2 ⟨Nat.zero_le _, Nat.zero_le _⟩ (fun v u H locs hpost hP hD hS => ?_)
  subst hpost
  refine W.eq (g2 := F0 m 5 ls [.null]) rfl ?_
  have hP : va_P D cls ([(h, .inr (1, [.ref r]))]) H := hP
  have hD : va_D A ([(h, .inr (1, [.ref r]))]) := hD
  refine lv_astoreN (lv' := [(4, .null), (0, .ref h), (1, .int q), (2, .int k), (3, .int v0)]) hx hb d_hh_put_5 hl (by decide) rfl (fun ls hl => ?_)
  refine lv_aloadN hx hb d_hh_put_7 (lv_at hl 0 rfl) ?_
  refine lv_ifnonnullN hx hb d_hh_put_9 ?_
  refine lv_ldc2 hx hb hown (hts _ kk_hh_22) d_hh_put_12 ?_
  refine lv_goto (tgt := 25) hx hb d_hh_put_15 (by decide) ?_
  exact cg_lret (u := ()) hQ hx hb hr hlk hK hP hD hS rfl d_hh_put_25
set_option maxRecDepth 100000 in
set_option maxHeartbeats 4000000 in
/-- add -/
theorem c_hh_add (l : Launch) (D : va_G) (cI cT cP : ClassId) (h r : Nat) (ft : Nat → Option Nat) (km : Nat) (hkm : km < 3) (a : Nat) (hft : ft km = some a) (mv : Bool) (j : Nat) (L : List (Int32 × Int32)) (u0 : TB) (hL : TL j L u0) (k v0 : Int32) (hlen : L.length < 2047) : Cg l y_hh_add b_hh_add 5 (some .long) 5 (mcT j (njs j k L)) (msT j (njs j k L)) D (ty3 cI cT cP) [.ref h, .int (nI km), .int k, .int v0] ([(h, .inr (1, [.ref r])), (r, .inl (cT, 3, .inr (.inr (.inr (.inr ft)))))] ++ (tw cI a mv j u0)) (fun (v : Option Value) (u : TB) => v = some (.long (an (lk k L))) ∧ TL (njs j k L) (ad mv k v0 L) u) (fun u => [(h, .inr (1, [.ref r])), (r, .inl (cT, 3, .inr (.inr (.inr (.inr ft)))))] ++ (tw cI a mv (njs j k L) u)) := by
  refine cg_enter rfl (Nat.le_of_ble_eq_true rfl) ?_
  intro p e s m below meth c args hx hb hr hlk hml hown hin hts A hA hK hP hD hS ls hl Q hQ
  have hl : lv_has ls 5 [(0, .ref h), (1, .int (nI km)), (2, .int k), (3, .int v0)] := hl
  have hP : va_P D cls ([(h, .inr (1, [.ref r])), (r, .inl (cT, 3, .inr (.inr (.inr (.inr ft)))))] ++ (tw cI a mv j u0)) s.heap := hP
  have hD : va_D A ([(h, .inr (1, [.ref r])), (r, .inl (cT, 3, .inr (.inr (.inr (.inr ft)))))] ++ (tw cI a mv j u0)) := hD
  refine lv_aload_n hx hb d_hh_add_0 rfl (lv_at hl 0 rfl) ?_
  refine lv_iload_n hx hb d_hh_add_1 rfl (lv_at hl 1 rfl) ?_
  refine cg_V (hn := 1) (As := [.int (nI km)]) (rest := []) (wr := tw cI a mv j u0) (q0 := 0) (ci := 1) hx hb hml hown hts (c_hh_tableOf l D cI cT cP h r ft km hkm a hft) km_hh_18 ki_hh_tableOf ks_hh_tableOf kn_hh kc_hh_tableOf (by decide +kernel) rfl ⟨Nat.le_of_ble_eq_true rfl, Nat.le_of_ble_eq_true rfl⟩ hK hP hD hS hA [0, 1] [2, 3, 4, 5, 6, 7, 8] rfl (by decide) rfl (by decide) (by decide) rfl rfl hl.1 rfl (Nat.le_of_ble_eq_true rfl) d_hh_add_2 ⟨Nat.zero_le _, Nat.zero_le _⟩ (fun v u H locs hpost hP hD hS => ?_)
  subst hpost
  refine W.eq (g2 := F0 m 5 ls [.ref a]) rfl ?_
  have hP : va_P D cls ((tw cI a mv j u0) ++ [(h, .inr (1, [.ref r])), (r, .inl (cT, 3, .inr (.inr (.inr (.inr ft)))))]) H := hP
  have hD : va_D A ((tw cI a mv j u0) ++ [(h, .inr (1, [.ref r])), (r, .inl (cT, 3, .inr (.inr (.inr (.inr ft)))))]) := hD
  have hP : va_P D cls ([(h, .inr (1, [.ref r])), (r, .inl (cT, 3, .inr (.inr (.inr (.inr ft)))))] ++ (tw cI a mv j u0)) H := hP.sub [7, 8, 0, 1, 2, 3, 4, 5, 6] rfl
  have hD : va_D A ([(h, .inr (1, [.ref r])), (r, .inl (cT, 3, .inr (.inr (.inr (.inr ft)))))] ++ (tw cI a mv j u0)) := hD.sub [7, 8, 0, 1, 2, 3, 4, 5, 6] (by decide) rfl
  refine lv_astore (lv' := [(4, .ref a), (0, .ref h), (1, .int (nI km)), (2, .int k), (3, .int v0)]) hx hb d_hh_add_5 hl (by decide) rfl (fun ls hl => ?_)
  refine lv_aload hx hb d_hh_add_7 (lv_at hl 0 rfl) ?_
  refine lv_ifnonnull (tgt := 18) hx hb d_hh_add_9 (by decide) ?_
  refine lv_aload hx hb d_hh_add_18 (lv_at hl 0 rfl) ?_
  refine lv_iload_n hx hb d_hh_add_20 rfl (lv_at hl 3 rfl) ?_
  refine lv_iload_n hx hb d_hh_add_21 rfl (lv_at hl 4 rfl) ?_
  refine cg_V (hn := 2) (As := [.int k, .int v0]) (rest := []) (wr := [(h, .inr (1, [.ref r])), (r, .inl (cT, 3, .inr (.inr (.inr (.inr ft)))))]) (q0 := 0) (ci := 0) hx hb hml hown hts (c_tb_storeIfNew l D cI cT cP a mv j L u0 hL k v0 hlen) km_hh_28 ki_tb_storeIfNew ks_tb_storeIfNew kn_tb kc_tb_storeIfNew (by decide +kernel) rfl ⟨Nat.le_of_ble_eq_true rfl, Nat.le_of_ble_eq_true rfl⟩ hK hP hD hS hA [2, 3, 4, 5, 6, 7, 8] [0, 1] rfl (by decide) rfl (by decide) (by decide) rfl rfl hl.1 rfl (Nat.le_of_ble_eq_true rfl) d_hh_add_22 ⟨by show 0 + _ ≤ _; rw [Nat.zero_add]; exact Nat.le_refl _, by show 0 + _ ≤ _; rw [Nat.zero_add]; exact Nat.le_refl _⟩ (fun v u H locs hpost hP hD hS => ?_)
  obtain ⟨e9, hT2⟩ := hpost
  subst e9
  refine W.eq (g2 := F0 m 25 ls [.long (an (lk k L))]) rfl ?_
  have hP : va_P D cls ([(h, .inr (1, [.ref r])), (r, .inl (cT, 3, .inr (.inr (.inr (.inr ft)))))] ++ (tw cI a mv (njs j k L) u)) H := hP
  have hD : va_D A ([(h, .inr (1, [.ref r])), (r, .inl (cT, 3, .inr (.inr (.inr (.inr ft)))))] ++ (tw cI a mv (njs j k L) u)) := hD
  refine W.widen (k := mcT j (njs j k L)) (n := msT j (njs j k L)) (Nat.le_of_eq (Nat.zero_add _)) (Nat.le_of_eq (Nat.zero_add _)) ?_
  exact cg_lret (u := u) hQ hx hb hr hlk hK hP hD hS (⟨rfl, hT2⟩) d_hh_add_25
set_option maxRecDepth 100000 in
set_option maxHeartbeats 4000000 in
theorem c_hh_add_x (l : Launch) (D : va_G) (cI cT cP : ClassId) (h r : Nat) (q : Int32) (hq : bad q) (k v0 : Int32) : Cg l y_hh_add b_hh_add 5 (some .long) 5 0 0 D (ty3 cI cT cP) [.ref h, .int q, .int k, .int v0] ([(h, .inr (1, [.ref r]))]) (fun (v : Option Value) (u : Unit) => v = some (.long 1099511627777)) (fun u => [(h, .inr (1, [.ref r]))]) := by
  refine cg_enter rfl (Nat.le_of_ble_eq_true rfl) ?_
  intro p e s m below meth c args hx hb hr hlk hml hown hin hts A hA hK hP hD hS ls hl Q hQ
  have hl : lv_has ls 5 [(0, .ref h), (1, .int q), (2, .int k), (3, .int v0)] := hl
  have hP : va_P D cls ([(h, .inr (1, [.ref r]))]) s.heap := hP
  have hD : va_D A ([(h, .inr (1, [.ref r]))]) := hD
  refine lv_aload_n hx hb d_hh_add_0 rfl (lv_at hl 0 rfl) ?_
  refine lv_iload_n hx hb d_hh_add_1 rfl (lv_at hl 1 rfl) ?_
  refine cg_V (hn := 1) (As := [.int q]) (rest := []) (wr := []) (q0 := 0) (ci := 1) hx hb hml hown hts (c_hh_tableOf_x l D cI cT cP h r q hq) km_hh_18 ki_hh_tableOf ks_hh_tableOf kn_hh kc_hh_tableOf (by decide +kernel) rfl ⟨Nat.le_of_ble_eq_true rfl, Nat.le_of_ble_eq_true rfl⟩ hK hP hD hS hA [0] [] rfl (by decide) rfl (by decide) (by decide) rfl rfl hl.1 rfl (Nat.le_of_ble_eq_true rfl) d_hh_add_2 ⟨Nat.zero_le _, Nat.zero_le _⟩ (fun v u H locs hpost hP hD hS => ?_)
  subst hpost
  refine W.eq (g2 := F0 m 5 ls [.null]) rfl ?_
  have hP : va_P D cls ([(h, .inr (1, [.ref r]))]) H := hP
  have hD : va_D A ([(h, .inr (1, [.ref r]))]) := hD
  refine lv_astoreN (lv' := [(4, .null), (0, .ref h), (1, .int q), (2, .int k), (3, .int v0)]) hx hb d_hh_add_5 hl (by decide) rfl (fun ls hl => ?_)
  refine lv_aloadN hx hb d_hh_add_7 (lv_at hl 0 rfl) ?_
  refine lv_ifnonnullN hx hb d_hh_add_9 ?_
  refine lv_ldc2 hx hb hown (hts _ kk_hh_22) d_hh_add_12 ?_
  refine lv_goto (tgt := 25) hx hb d_hh_add_15 (by decide) ?_
  exact cg_lret (u := ()) hQ hx hb hr hlk hK hP hD hS rfl d_hh_add_25
set_option maxRecDepth 100000 in
set_option maxHeartbeats 4000000 in
/-- get -/
theorem c_hh_get (l : Launch) (D : va_G) (cI cT cP : ClassId) (h r : Nat) (ft : Nat → Option Nat) (km : Nat) (hkm : km < 3) (a : Nat) (hft : ft km = some a) (mv : Bool) (j : Nat) (L : List (Int32 × Int32)) (u0 : TB) (hL : TL j L u0) (k : Int32) : Cg l y_hh_get b_hh_get 4 (some .long) 3 0 0 D (ty3 cI cT cP) [.ref h, .int (nI km), .int k] ([(h, .inr (1, [.ref r])), (r, .inl (cT, 3, .inr (.inr (.inr (.inr ft)))))] ++ (tw cI a mv j u0)) (fun (v : Option Value) (u : TB) => v = some (.long (an (lk k L))) ∧ TL j (us mv k L) u) (fun u => [(h, .inr (1, [.ref r])), (r, .inl (cT, 3, .inr (.inr (.inr (.inr ft)))))] ++ (tw cI a mv j u)) := by
  refine cg_enter rfl (Nat.le_of_ble_eq_true rfl) ?_
  intro p e s m below meth c args hx hb hr hlk hml hown hin hts A hA hK hP hD hS ls hl Q hQ
  have hl : lv_has ls 4 [(0, .ref h), (1, .int (nI km)), (2, .int k)] := hl
  have hP : va_P D cls ([(h, .inr (1, [.ref r])), (r, .inl (cT, 3, .inr (.inr (.inr (.inr ft)))))] ++ (tw cI a mv j u0)) s.heap := hP
  have hD : va_D A ([(h, .inr (1, [.ref r])), (r, .inl (cT, 3, .inr (.inr (.inr (.inr ft)))))] ++ (tw cI a mv j u0)) := hD
  refine lv_aload_n hx hb d_hh_get_0 rfl (lv_at hl 0 rfl) ?_
  refine lv_iload_n hx hb d_hh_get_1 rfl (lv_at hl 1 rfl) ?_
  refine cg_V (hn := 1) (As := [.int (nI km)]) (rest := []) (wr := tw cI a mv j u0) (q0 := 0) (ci := 1) hx hb hml hown hts (c_hh_tableOf l D cI cT cP h r ft km hkm a hft) km_hh_18 ki_hh_tableOf ks_hh_tableOf kn_hh kc_hh_tableOf (by decide +kernel) rfl ⟨Nat.le_of_ble_eq_true rfl, Nat.le_of_ble_eq_true rfl⟩ hK hP hD hS hA [0, 1] [2, 3, 4, 5, 6, 7, 8] rfl (by decide) rfl (by decide) (by decide) rfl rfl hl.1 rfl (Nat.le_of_ble_eq_true rfl) d_hh_get_2 ⟨Nat.zero_le _, Nat.zero_le _⟩ (fun v u H locs hpost hP hD hS => ?_)
  subst hpost
  refine W.eq (g2 := F0 m 5 ls [.ref a]) rfl ?_
  have hP : va_P D cls ((tw cI a mv j u0) ++ [(h, .inr (1, [.ref r])), (r, .inl (cT, 3, .inr (.inr (.inr (.inr ft)))))]) H := hP
  have hD : va_D A ((tw cI a mv j u0) ++ [(h, .inr (1, [.ref r])), (r, .inl (cT, 3, .inr (.inr (.inr (.inr ft)))))]) := hD
  have hP : va_P D cls ([(h, .inr (1, [.ref r])), (r, .inl (cT, 3, .inr (.inr (.inr (.inr ft)))))] ++ (tw cI a mv j u0)) H := hP.sub [7, 8, 0, 1, 2, 3, 4, 5, 6] rfl
  have hD : va_D A ([(h, .inr (1, [.ref r])), (r, .inl (cT, 3, .inr (.inr (.inr (.inr ft)))))] ++ (tw cI a mv j u0)) := hD.sub [7, 8, 0, 1, 2, 3, 4, 5, 6] (by decide) rfl
  refine lv_astore_n (lv' := [(3, .ref a), (0, .ref h), (1, .int (nI km)), (2, .int k)]) hx hb d_hh_get_5 rfl hl (by decide) rfl (fun ls hl => ?_)
  refine lv_aload_n hx hb d_hh_get_6 rfl (lv_at hl 0 rfl) ?_
  refine lv_ifnonnull (tgt := 16) hx hb d_hh_get_7 (by decide) ?_
  refine lv_aload_n hx hb d_hh_get_16 rfl (lv_at hl 0 rfl) ?_
  refine lv_iload_n hx hb d_hh_get_17 rfl (lv_at hl 3 rfl) ?_
  refine cg_V (hn := 1) (As := [.int k]) (rest := []) (wr := [(h, .inr (1, [.ref r])), (r, .inl (cT, 3, .inr (.inr (.inr (.inr ft)))))]) (q0 := 0) (ci := 0) hx hb hml hown hts (c_tb_lookUp l D cI cT cP a mv j L u0 hL k) km_hh_31 ki_tb_lookUp ks_tb_lookUp kn_tb kc_tb_lookUp (by decide +kernel) rfl ⟨Nat.le_of_ble_eq_true rfl, Nat.le_of_ble_eq_true rfl⟩ hK hP hD hS hA [2, 3, 4, 5, 6, 7, 8] [0, 1] rfl (by decide) rfl (by decide) (by decide) rfl rfl hl.1 rfl (Nat.le_of_ble_eq_true rfl) d_hh_get_18 ⟨Nat.zero_le _, Nat.zero_le _⟩ (fun v u H locs hpost hP hD hS => ?_)
  obtain ⟨e9, hT2⟩ := hpost
  subst e9
  refine W.eq (g2 := F0 m 21 ls [.long (an (lk k L))]) rfl ?_
  have hP : va_P D cls ([(h, .inr (1, [.ref r])), (r, .inl (cT, 3, .inr (.inr (.inr (.inr ft)))))] ++ (tw cI a mv j u)) H := hP
  have hD : va_D A ([(h, .inr (1, [.ref r])), (r, .inl (cT, 3, .inr (.inr (.inr (.inr ft)))))] ++ (tw cI a mv j u)) := hD
  exact cg_lret (u := u) hQ hx hb hr hlk hK hP hD hS (⟨rfl, hT2⟩) d_hh_get_21
set_option maxRecDepth 100000 in
set_option maxHeartbeats 4000000 in
theorem c_hh_get_x (l : Launch) (D : va_G) (cI cT cP : ClassId) (h r : Nat) (q : Int32) (hq : bad q) (k : Int32) : Cg l y_hh_get b_hh_get 4 (some .long) 3 0 0 D (ty3 cI cT cP) [.ref h, .int q, .int k] ([(h, .inr (1, [.ref r]))]) (fun (v : Option Value) (u : Unit) => v = some (.long 1099511627777)) (fun u => [(h, .inr (1, [.ref r]))]) := by
  refine cg_enter rfl (Nat.le_of_ble_eq_true rfl) ?_
  intro p e s m below meth c args hx hb hr hlk hml hown hin hts A hA hK hP hD hS ls hl Q hQ
  have hl : lv_has ls 4 [(0, .ref h), (1, .int q), (2, .int k)] := hl
  have hP : va_P D cls ([(h, .inr (1, [.ref r]))]) s.heap := hP
  have hD : va_D A ([(h, .inr (1, [.ref r]))]) := hD
  refine lv_aload_n hx hb d_hh_get_0 rfl (lv_at hl 0 rfl) ?_
  refine lv_iload_n hx hb d_hh_get_1 rfl (lv_at hl 1 rfl) ?_
  refine cg_V (hn := 1) (As := [.int q]) (rest := []) (wr := []) (q0 := 0) (ci := 1) hx hb hml hown hts (c_hh_tableOf_x l D cI cT cP h r q hq) km_hh_18 ki_hh_tableOf ks_hh_tableOf kn_hh kc_hh_tableOf (by decide +kernel) rfl ⟨Nat.le_of_ble_eq_true rfl, Nat.le_of_ble_eq_true rfl⟩ hK hP hD hS hA [0] [] rfl (by decide) rfl (by decide) (by decide) rfl rfl hl.1 rfl (Nat.le_of_ble_eq_true rfl) d_hh_get_2 ⟨Nat.zero_le _, Nat.zero_le _⟩ (fun v u H locs hpost hP hD hS => ?_)
  subst hpost
  refine W.eq (g2 := F0 m 5 ls [.null]) rfl ?_
  have hP : va_P D cls ([(h, .inr (1, [.ref r]))]) H := hP
  have hD : va_D A ([(h, .inr (1, [.ref r]))]) := hD
  refine lv_astore_nN (lv' := [(3, .null), (0, .ref h), (1, .int q), (2, .int k)]) hx hb d_hh_get_5 rfl hl (by decide) rfl (fun ls hl => ?_)
  refine lv_aload_nN hx hb d_hh_get_6 rfl (lv_at hl 0 rfl) ?_
  refine lv_ifnonnullN hx hb d_hh_get_7 ?_
  refine lv_ldc2 hx hb hown (hts _ kk_hh_22) d_hh_get_10 ?_
  refine lv_goto (tgt := 21) hx hb d_hh_get_13 (by decide) ?_
  exact cg_lret (u := ()) hQ hx hb hr hlk hK hP hD hS rfl d_hh_get_21
set_option maxRecDepth 100000 in
set_option maxHeartbeats 4000000 in
/-- give -/
theorem c_hh_give (l : Launch) (D : va_G) (cI cT cP : ClassId) (h r : Nat) (ft : Nat → Option Nat) (km : Nat) (hkm : km < 3) (a : Nat) (hft : ft km = some a) (mv : Bool) (j : Nat) (L : List (Int32 × Int32)) (u0 : TB) (hL : TL j L u0) (k o : Int32) : Cg l y_hh_give b_hh_give 7 (some .long) 3 0 0 D (ty3 cI cT cP) [.ref h, .int (nI km), .int k, .int o] ([(h, .inr (1, [.ref r])), (r, .inl (cT, 3, .inr (.inr (.inr (.inr ft)))))] ++ (tw cI a mv j u0)) (fun (v : Option Value) (u : TB) => v = some (.long (gv o (lk k L))) ∧ TL j (us mv k L) u) (fun u => [(h, .inr (1, [.ref r])), (r, .inl (cT, 3, .inr (.inr (.inr (.inr ft)))))] ++ (tw cI a mv j u)) := by
  refine cg_enter rfl (Nat.le_of_ble_eq_true rfl) ?_
  intro p e s m below meth c args hx hb hr hlk hml hown hin hts A hA hK hP hD hS ls hl Q hQ
  have hl : lv_has ls 7 [(0, .ref h), (1, .int (nI km)), (2, .int k), (3, .int o)] := hl
  have hP : va_P D cls ([(h, .inr (1, [.ref r])), (r, .inl (cT, 3, .inr (.inr (.inr (.inr ft)))))] ++ (tw cI a mv j u0)) s.heap := hP
  have hD : va_D A ([(h, .inr (1, [.ref r])), (r, .inl (cT, 3, .inr (.inr (.inr (.inr ft)))))] ++ (tw cI a mv j u0)) := hD
  refine lv_aload_n hx hb d_hh_give_0 rfl (lv_at hl 0 rfl) ?_
  refine lv_iload_n hx hb d_hh_give_1 rfl (lv_at hl 1 rfl) ?_
  refine cg_V (hn := 1) (As := [.int (nI km)]) (rest := []) (wr := tw cI a mv j u0) (q0 := 0) (ci := 1) hx hb hml hown hts (c_hh_tableOf l D cI cT cP h r ft km hkm a hft) km_hh_18 ki_hh_tableOf ks_hh_tableOf kn_hh kc_hh_tableOf (by decide +kernel) rfl ⟨Nat.le_of_ble_eq_true rfl, Nat.le_of_ble_eq_true rfl⟩ hK hP hD hS hA [0, 1] [2, 3, 4, 5, 6, 7, 8] rfl (by decide) rfl (by decide) (by decide) rfl rfl hl.1 rfl (Nat.le_of_ble_eq_true rfl) d_hh_give_2 ⟨Nat.zero_le _, Nat.zero_le _⟩ (fun v u H locs hpost hP hD hS => ?_)
  subst hpost
  refine W.eq (g2 := F0 m 5 ls [.ref a]) rfl ?_
  have hP : va_P D cls ((tw cI a mv j u0) ++ [(h, .inr (1, [.ref r])), (r, .inl (cT, 3, .inr (.inr (.inr (.inr ft)))))]) H := hP
  have hD : va_D A ((tw cI a mv j u0) ++ [(h, .inr (1, [.ref r])), (r, .inl (cT, 3, .inr (.inr (.inr (.inr ft)))))]) := hD
  have hP : va_P D cls ([(h, .inr (1, [.ref r])), (r, .inl (cT, 3, .inr (.inr (.inr (.inr ft)))))] ++ (tw cI a mv j u0)) H := hP.sub [7, 8, 0, 1, 2, 3, 4, 5, 6] rfl
  have hD : va_D A ([(h, .inr (1, [.ref r])), (r, .inl (cT, 3, .inr (.inr (.inr (.inr ft)))))] ++ (tw cI a mv j u0)) := hD.sub [7, 8, 0, 1, 2, 3, 4, 5, 6] (by decide) rfl
  refine lv_astore (lv' := [(4, .ref a), (0, .ref h), (1, .int (nI km)), (2, .int k), (3, .int o)]) hx hb d_hh_give_5 hl (by decide) rfl (fun ls hl => ?_)
  refine lv_aload hx hb d_hh_give_7 (lv_at hl 0 rfl) ?_
  refine lv_ifnonnull (tgt := 16) hx hb d_hh_give_9 (by decide) ?_
  refine lv_aload hx hb d_hh_give_16 (lv_at hl 0 rfl) ?_
  refine lv_iload_n hx hb d_hh_give_18 rfl (lv_at hl 3 rfl) ?_
  refine cg_V (hn := 1) (As := [.int k]) (rest := []) (wr := [(h, .inr (1, [.ref r])), (r, .inl (cT, 3, .inr (.inr (.inr (.inr ft)))))]) (q0 := 0) (ci := 0) hx hb hml hown hts (c_tb_lookUp l D cI cT cP a mv j L u0 hL k) km_hh_31 ki_tb_lookUp ks_tb_lookUp kn_tb kc_tb_lookUp (by decide +kernel) rfl ⟨Nat.le_of_ble_eq_true rfl, Nat.le_of_ble_eq_true rfl⟩ hK hP hD hS hA [2, 3, 4, 5, 6, 7, 8] [0, 1] rfl (by decide) rfl (by decide) (by decide) rfl rfl hl.1 rfl (Nat.le_of_ble_eq_true rfl) d_hh_give_19 ⟨Nat.zero_le _, Nat.zero_le _⟩ (fun v u H locs hpost hP hD hS => ?_)
  obtain ⟨e9, hT2⟩ := hpost
  subst e9
  refine W.eq (g2 := F0 m 22 ls [.long (an (lk k L))]) rfl ?_
  have hP : va_P D cls ([(h, .inr (1, [.ref r])), (r, .inl (cT, 3, .inr (.inr (.inr (.inr ft)))))] ++ (tw cI a mv j u)) H := hP
  have hD : va_D A ([(h, .inr (1, [.ref r])), (r, .inl (cT, 3, .inr (.inr (.inr (.inr ft)))))] ++ (tw cI a mv j u)) := hD
  refine lv_lstore (lv' := [(5, .long (an (lk k L))), (4, .ref a), (0, .ref h), (1, .int (nI km)), (2, .int k), (3, .int o)]) hx hb d_hh_give_22 hl (by decide) rfl (fun ls hl => ?_)
  refine lv_lload hx hb d_hh_give_24 (lv_at hl 0 rfl) ?_
  refine lv_ldc2 hx hb hown (hts _ kk_hh_35) d_hh_give_26 ?_
  refine W.lcmp hx hb d_hh_give_29 ?_
  refine lv_if_ne (tgt := 38) hx hb d_hh_give_30 (by decide) (fun c1 => ?_) (fun c1 => ?_)
  · refine lv_lload hx hb d_hh_give_38 (lv_at hl 0 rfl) ?_
    exact cg_lret (u := u) hQ hx hb hr hlk hK hP hD hS (⟨by rw [gv_an, if_neg (fun z9 => c1 (lg_eq.mpr z9))], hT2⟩) d_hh_give_40
  · refine lv_iload_n hx hb d_hh_give_33 rfl (lv_at hl 5 rfl) ?_
    refine lv_i2l (v := o.toInt64) hx hb d_hh_give_34 rfl ?_
    refine lv_goto (tgt := 40) hx hb d_hh_give_35 (by decide) ?_
    exact cg_lret (u := u) hQ hx hb hr hlk hK hP hD hS (⟨by rw [gv_an, if_pos (lg_eq.mp c1)], hT2⟩) d_hh_give_40
set_option maxRecDepth 100000 in
set_option maxHeartbeats 4000000 in
theorem c_hh_give_x (l : Launch) (D : va_G) (cI cT cP : ClassId) (h r : Nat) (q : Int32) (hq : bad q) (k o : Int32) : Cg l y_hh_give b_hh_give 7 (some .long) 3 0 0 D (ty3 cI cT cP) [.ref h, .int q, .int k, .int o] ([(h, .inr (1, [.ref r]))]) (fun (v : Option Value) (u : Unit) => v = some (.long 1099511627777)) (fun u => [(h, .inr (1, [.ref r]))]) := by
  refine cg_enter rfl (Nat.le_of_ble_eq_true rfl) ?_
  intro p e s m below meth c args hx hb hr hlk hml hown hin hts A hA hK hP hD hS ls hl Q hQ
  have hl : lv_has ls 7 [(0, .ref h), (1, .int q), (2, .int k), (3, .int o)] := hl
  have hP : va_P D cls ([(h, .inr (1, [.ref r]))]) s.heap := hP
  have hD : va_D A ([(h, .inr (1, [.ref r]))]) := hD
  refine lv_aload_n hx hb d_hh_give_0 rfl (lv_at hl 0 rfl) ?_
  refine lv_iload_n hx hb d_hh_give_1 rfl (lv_at hl 1 rfl) ?_
  refine cg_V (hn := 1) (As := [.int q]) (rest := []) (wr := []) (q0 := 0) (ci := 1) hx hb hml hown hts (c_hh_tableOf_x l D cI cT cP h r q hq) km_hh_18 ki_hh_tableOf ks_hh_tableOf kn_hh kc_hh_tableOf (by decide +kernel) rfl ⟨Nat.le_of_ble_eq_true rfl, Nat.le_of_ble_eq_true rfl⟩ hK hP hD hS hA [0] [] rfl (by decide) rfl (by decide) (by decide) rfl rfl hl.1 rfl (Nat.le_of_ble_eq_true rfl) d_hh_give_2 ⟨Nat.zero_le _, Nat.zero_le _⟩ (fun v u H locs hpost hP hD hS => ?_)
  subst hpost
  refine W.eq (g2 := F0 m 5 ls [.null]) rfl ?_
  have hP : va_P D cls ([(h, .inr (1, [.ref r]))]) H := hP
  have hD : va_D A ([(h, .inr (1, [.ref r]))]) := hD
  refine lv_astoreN (lv' := [(4, .null), (0, .ref h), (1, .int q), (2, .int k), (3, .int o)]) hx hb d_hh_give_5 hl (by decide) rfl (fun ls hl => ?_)
  refine lv_aloadN hx hb d_hh_give_7 (lv_at hl 0 rfl) ?_
  refine lv_ifnonnullN hx hb d_hh_give_9 ?_
  refine lv_ldc2 hx hb hown (hts _ kk_hh_22) d_hh_give_12 ?_
  exact cg_lret (u := ()) hQ hx hb hr hlk hK hP hD hS rfl d_hh_give_15
set_option maxRecDepth 100000 in
set_option maxHeartbeats 4000000 in
/-- remove -/
theorem c_hh_remove (l : Launch) (D : va_G) (cI cT cP : ClassId) (h r : Nat) (ft : Nat → Option Nat) (km : Nat) (hkm : km < 3) (a : Nat) (hft : ft km = some a) (mv : Bool) (j : Nat) (L : List (Int32 × Int32)) (u0 : TB) (hL : TL j L u0) (k : Int32) : Cg l y_hh_remove b_hh_remove 4 (some .long) 4 0 0 D (ty3 cI cT cP) [.ref h, .int (nI km), .int k] ([(h, .inr (1, [.ref r])), (r, .inl (cT, 3, .inr (.inr (.inr (.inr ft)))))] ++ (tw cI a mv j u0)) (fun (v : Option Value) (u : TB) => v = some (.long (an (lk k L))) ∧ TL j (del k L) u) (fun u => [(h, .inr (1, [.ref r])), (r, .inl (cT, 3, .inr (.inr (.inr (.inr ft)))))] ++ (tw cI a mv j u)) := by
  refine cg_enter rfl (Nat.le_of_ble_eq_true rfl) ?_
  intro p e s m below meth c args hx hb hr hlk hml hown hin hts A hA hK hP hD hS ls hl Q hQ
  have hl : lv_has ls 4 [(0, .ref h), (1, .int (nI km)), (2, .int k)] := hl
  have hP : va_P D cls ([(h, .inr (1, [.ref r])), (r, .inl (cT, 3, .inr (.inr (.inr (.inr ft)))))] ++ (tw cI a mv j u0)) s.heap := hP
  have hD : va_D A ([(h, .inr (1, [.ref r])), (r, .inl (cT, 3, .inr (.inr (.inr (.inr ft)))))] ++ (tw cI a mv j u0)) := hD
  refine lv_aload_n hx hb d_hh_remove_0 rfl (lv_at hl 0 rfl) ?_
  refine lv_iload_n hx hb d_hh_remove_1 rfl (lv_at hl 1 rfl) ?_
  refine cg_V (hn := 1) (As := [.int (nI km)]) (rest := []) (wr := tw cI a mv j u0) (q0 := 0) (ci := 1) hx hb hml hown hts (c_hh_tableOf l D cI cT cP h r ft km hkm a hft) km_hh_18 ki_hh_tableOf ks_hh_tableOf kn_hh kc_hh_tableOf (by decide +kernel) rfl ⟨Nat.le_of_ble_eq_true rfl, Nat.le_of_ble_eq_true rfl⟩ hK hP hD hS hA [0, 1] [2, 3, 4, 5, 6, 7, 8] rfl (by decide) rfl (by decide) (by decide) rfl rfl hl.1 rfl (Nat.le_of_ble_eq_true rfl) d_hh_remove_2 ⟨Nat.zero_le _, Nat.zero_le _⟩ (fun v u H locs hpost hP hD hS => ?_)
  subst hpost
  refine W.eq (g2 := F0 m 5 ls [.ref a]) rfl ?_
  have hP : va_P D cls ((tw cI a mv j u0) ++ [(h, .inr (1, [.ref r])), (r, .inl (cT, 3, .inr (.inr (.inr (.inr ft)))))]) H := hP
  have hD : va_D A ((tw cI a mv j u0) ++ [(h, .inr (1, [.ref r])), (r, .inl (cT, 3, .inr (.inr (.inr (.inr ft)))))]) := hD
  have hP : va_P D cls ([(h, .inr (1, [.ref r])), (r, .inl (cT, 3, .inr (.inr (.inr (.inr ft)))))] ++ (tw cI a mv j u0)) H := hP.sub [7, 8, 0, 1, 2, 3, 4, 5, 6] rfl
  have hD : va_D A ([(h, .inr (1, [.ref r])), (r, .inl (cT, 3, .inr (.inr (.inr (.inr ft)))))] ++ (tw cI a mv j u0)) := hD.sub [7, 8, 0, 1, 2, 3, 4, 5, 6] (by decide) rfl
  refine lv_astore_n (lv' := [(3, .ref a), (0, .ref h), (1, .int (nI km)), (2, .int k)]) hx hb d_hh_remove_5 rfl hl (by decide) rfl (fun ls hl => ?_)
  refine lv_aload_n hx hb d_hh_remove_6 rfl (lv_at hl 0 rfl) ?_
  refine lv_ifnonnull (tgt := 16) hx hb d_hh_remove_7 (by decide) ?_
  refine lv_aload_n hx hb d_hh_remove_16 rfl (lv_at hl 0 rfl) ?_
  refine lv_iload_n hx hb d_hh_remove_17 rfl (lv_at hl 3 rfl) ?_
  refine cg_V (hn := 1) (As := [.int k]) (rest := []) (wr := [(h, .inr (1, [.ref r])), (r, .inl (cT, 3, .inr (.inr (.inr (.inr ft)))))]) (q0 := 0) (ci := 0) hx hb hml hown hts (c_tb_dropKey l D cI cT cP a mv j L u0 hL k) km_hh_37 ki_tb_dropKey ks_tb_dropKey kn_tb kc_tb_dropKey (by decide +kernel) rfl ⟨Nat.le_of_ble_eq_true rfl, Nat.le_of_ble_eq_true rfl⟩ hK hP hD hS hA [2, 3, 4, 5, 6, 7, 8] [0, 1] rfl (by decide) rfl (by decide) (by decide) rfl rfl hl.1 rfl (Nat.le_of_ble_eq_true rfl) d_hh_remove_18 ⟨Nat.zero_le _, Nat.zero_le _⟩ (fun v u H locs hpost hP hD hS => ?_)
  obtain ⟨e9, hT2⟩ := hpost
  subst e9
  refine W.eq (g2 := F0 m 21 ls [.long (an (lk k L))]) rfl ?_
  have hP : va_P D cls ([(h, .inr (1, [.ref r])), (r, .inl (cT, 3, .inr (.inr (.inr (.inr ft)))))] ++ (tw cI a mv j u)) H := hP
  have hD : va_D A ([(h, .inr (1, [.ref r])), (r, .inl (cT, 3, .inr (.inr (.inr (.inr ft)))))] ++ (tw cI a mv j u)) := hD
  exact cg_lret (u := u) hQ hx hb hr hlk hK hP hD hS (⟨rfl, hT2⟩) d_hh_remove_21
set_option maxRecDepth 100000 in
set_option maxHeartbeats 4000000 in
theorem c_hh_remove_x (l : Launch) (D : va_G) (cI cT cP : ClassId) (h r : Nat) (q : Int32) (hq : bad q) (k : Int32) : Cg l y_hh_remove b_hh_remove 4 (some .long) 4 0 0 D (ty3 cI cT cP) [.ref h, .int q, .int k] ([(h, .inr (1, [.ref r]))]) (fun (v : Option Value) (u : Unit) => v = some (.long 1099511627777)) (fun u => [(h, .inr (1, [.ref r]))]) := by
  refine cg_enter rfl (Nat.le_of_ble_eq_true rfl) ?_
  intro p e s m below meth c args hx hb hr hlk hml hown hin hts A hA hK hP hD hS ls hl Q hQ
  have hl : lv_has ls 4 [(0, .ref h), (1, .int q), (2, .int k)] := hl
  have hP : va_P D cls ([(h, .inr (1, [.ref r]))]) s.heap := hP
  have hD : va_D A ([(h, .inr (1, [.ref r]))]) := hD
  refine lv_aload_n hx hb d_hh_remove_0 rfl (lv_at hl 0 rfl) ?_
  refine lv_iload_n hx hb d_hh_remove_1 rfl (lv_at hl 1 rfl) ?_
  refine cg_V (hn := 1) (As := [.int q]) (rest := []) (wr := []) (q0 := 0) (ci := 1) hx hb hml hown hts (c_hh_tableOf_x l D cI cT cP h r q hq) km_hh_18 ki_hh_tableOf ks_hh_tableOf kn_hh kc_hh_tableOf (by decide +kernel) rfl ⟨Nat.le_of_ble_eq_true rfl, Nat.le_of_ble_eq_true rfl⟩ hK hP hD hS hA [0] [] rfl (by decide) rfl (by decide) (by decide) rfl rfl hl.1 rfl (Nat.le_of_ble_eq_true rfl) d_hh_remove_2 ⟨Nat.zero_le _, Nat.zero_le _⟩ (fun v u H locs hpost hP hD hS => ?_)
  subst hpost
  refine W.eq (g2 := F0 m 5 ls [.null]) rfl ?_
  have hP : va_P D cls ([(h, .inr (1, [.ref r]))]) H := hP
  have hD : va_D A ([(h, .inr (1, [.ref r]))]) := hD
  refine lv_astore_nN (lv' := [(3, .null), (0, .ref h), (1, .int q), (2, .int k)]) hx hb d_hh_remove_5 rfl hl (by decide) rfl (fun ls hl => ?_)
  refine lv_aload_nN hx hb d_hh_remove_6 rfl (lv_at hl 0 rfl) ?_
  refine lv_ifnonnullN hx hb d_hh_remove_7 ?_
  refine lv_ldc2 hx hb hown (hts _ kk_hh_22) d_hh_remove_10 ?_
  refine lv_goto (tgt := 21) hx hb d_hh_remove_13 (by decide) ?_
  exact cg_lret (u := ()) hQ hx hb hr hlk hK hP hD hS rfl d_hh_remove_21
set_option maxRecDepth 100000 in
set_option maxHeartbeats 4000000 in
/-- take -/
theorem c_hh_take (l : Launch) (D : va_G) (cI cT cP : ClassId) (h r : Nat) (ft : Nat → Option Nat) (km : Nat) (hkm : km < 3) (a : Nat) (hft : ft km = some a) (mv : Bool) (j : Nat) (L : List (Int32 × Int32)) (u0 : TB) (hL : TL j L u0) (k v0 : Int32) : Cg l y_hh_take b_hh_take 5 (some .boolean) 4 0 0 D (ty3 cI cT cP) [.ref h, .int (nI km), .int k, .int v0] ([(h, .inr (1, [.ref r])), (r, .inl (cT, 3, .inr (.inr (.inr (.inr ft)))))] ++ (tw cI a mv j u0)) (fun (v : Option Value) (u : TB) => v = some (.int (zI (decide (lk k L = some v0)))) ∧ TL j (tk k v0 L) u) (fun u => [(h, .inr (1, [.ref r])), (r, .inl (cT, 3, .inr (.inr (.inr (.inr ft)))))] ++ (tw cI a mv j u)) := by
  refine cg_enter rfl (Nat.le_of_ble_eq_true rfl) ?_
  intro p e s m below meth c args hx hb hr hlk hml hown hin hts A hA hK hP hD hS ls hl Q hQ
  have hl : lv_has ls 5 [(0, .ref h), (1, .int (nI km)), (2, .int k), (3, .int v0)] := hl
  have hP : va_P D cls ([(h, .inr (1, [.ref r])), (r, .inl (cT, 3, .inr (.inr (.inr (.inr ft)))))] ++ (tw cI a mv j u0)) s.heap := hP
  have hD : va_D A ([(h, .inr (1, [.ref r])), (r, .inl (cT, 3, .inr (.inr (.inr (.inr ft)))))] ++ (tw cI a mv j u0)) := hD
  refine lv_aload_n hx hb d_hh_take_0 rfl (lv_at hl 0 rfl) ?_
  refine lv_iload_n hx hb d_hh_take_1 rfl (lv_at hl 1 rfl) ?_
  refine cg_V (hn := 1) (As := [.int (nI km)]) (rest := []) (wr := tw cI a mv j u0) (q0 := 0) (ci := 1) hx hb hml hown hts (c_hh_tableOf l D cI cT cP h r ft km hkm a hft) km_hh_18 ki_hh_tableOf ks_hh_tableOf kn_hh kc_hh_tableOf (by decide +kernel) rfl ⟨Nat.le_of_ble_eq_true rfl, Nat.le_of_ble_eq_true rfl⟩ hK hP hD hS hA [0, 1] [2, 3, 4, 5, 6, 7, 8] rfl (by decide) rfl (by decide) (by decide) rfl rfl hl.1 rfl (Nat.le_of_ble_eq_true rfl) d_hh_take_2 ⟨Nat.zero_le _, Nat.zero_le _⟩ (fun v u H locs hpost hP hD hS => ?_)
  subst hpost
  refine W.eq (g2 := F0 m 5 ls [.ref a]) rfl ?_
  have hP : va_P D cls ((tw cI a mv j u0) ++ [(h, .inr (1, [.ref r])), (r, .inl (cT, 3, .inr (.inr (.inr (.inr ft)))))]) H := hP
  have hD : va_D A ((tw cI a mv j u0) ++ [(h, .inr (1, [.ref r])), (r, .inl (cT, 3, .inr (.inr (.inr (.inr ft)))))]) := hD
  have hP : va_P D cls ([(h, .inr (1, [.ref r])), (r, .inl (cT, 3, .inr (.inr (.inr (.inr ft)))))] ++ (tw cI a mv j u0)) H := hP.sub [7, 8, 0, 1, 2, 3, 4, 5, 6] rfl
  have hD : va_D A ([(h, .inr (1, [.ref r])), (r, .inl (cT, 3, .inr (.inr (.inr (.inr ft)))))] ++ (tw cI a mv j u0)) := hD.sub [7, 8, 0, 1, 2, 3, 4, 5, 6] (by decide) rfl
  refine lv_astore (lv' := [(4, .ref a), (0, .ref h), (1, .int (nI km)), (2, .int k), (3, .int v0)]) hx hb d_hh_take_5 hl (by decide) rfl (fun ls hl => ?_)
  refine lv_aload hx hb d_hh_take_7 (lv_at hl 0 rfl) ?_
  refine lv_ifnull hx hb d_hh_take_9 ?_
  refine lv_aload hx hb d_hh_take_12 (lv_at hl 0 rfl) ?_
  refine lv_iload_n hx hb d_hh_take_14 rfl (lv_at hl 3 rfl) ?_
  refine lv_iload_n hx hb d_hh_take_15 rfl (lv_at hl 4 rfl) ?_
  refine cg_V (hn := 2) (As := [.int k, .int v0]) (rest := []) (wr := [(h, .inr (1, [.ref r])), (r, .inl (cT, 3, .inr (.inr (.inr (.inr ft)))))]) (q0 := 0) (ci := 0) hx hb hml hown hts (c_tb_dropPair l D cI cT cP a mv j L u0 hL k v0) km_hh_40 ki_tb_dropPair ks_tb_dropPair kn_tb kc_tb_dropPair (by decide +kernel) rfl ⟨Nat.le_of_ble_eq_true rfl, Nat.le_of_ble_eq_true rfl⟩ hK hP hD hS hA [2, 3, 4, 5, 6, 7, 8] [0, 1] rfl (by decide) rfl (by decide) (by decide) rfl rfl hl.1 rfl (Nat.le_of_ble_eq_true rfl) d_hh_take_16 ⟨Nat.zero_le _, Nat.zero_le _⟩ (fun v u H locs hpost hP hD hS => ?_)
  obtain ⟨e9, hT2⟩ := hpost
  subst e9
  refine W.eq (g2 := F0 m 19 ls [.int (zI (decide (lk k L = some v0)))]) rfl ?_
  have hP : va_P D cls ([(h, .inr (1, [.ref r])), (r, .inl (cT, 3, .inr (.inr (.inr (.inr ft)))))] ++ (tw cI a mv j u)) H := hP
  have hD : va_D A ([(h, .inr (1, [.ref r])), (r, .inl (cT, 3, .inr (.inr (.inr (.inr ft)))))] ++ (tw cI a mv j u)) := hD
  generalize hbb : decide (lk k L = some v0) = bb
  cases bb with
  | false =>
    refine lv_if_eq (tgt := 26) hx hb d_hh_take_19 (by decide) (fun _ => ?_) (fun z9 => absurd rfl z9)
    refine lv_iconst (v := 0) hx hb d_hh_take_26 (by decide) ?_
    exact cg_zret (u := u) hQ hx hb hr hlk hK hP hD hS rfl (⟨by rw [hbb]; rfl, hT2⟩) d_hh_take_27
  | true =>
    refine lv_if_eq (tgt := 26) hx hb d_hh_take_19 (by decide) (fun z9 => absurd z9 (by decide)) (fun _ => ?_)
    refine lv_iconst (v := 1) hx hb d_hh_take_22 (by decide) ?_
    refine lv_goto (tgt := 27) hx hb d_hh_take_23 (by decide) ?_
    exact cg_zret (u := u) hQ hx hb hr hlk hK hP hD hS rfl (⟨by rw [hbb]; rfl, hT2⟩) d_hh_take_27
set_option maxRecDepth 100000 in
set_option maxHeartbeats 4000000 in
theorem c_hh_take_x (l : Launch) (D : va_G) (cI cT cP : ClassId) (h r : Nat) (q : Int32) (hq : bad q) (k v0 : Int32) : Cg l y_hh_take b_hh_take 5 (some .boolean) 4 0 0 D (ty3 cI cT cP) [.ref h, .int q, .int k, .int v0] ([(h, .inr (1, [.ref r]))]) (fun (v : Option Value) (u : Unit) => v = some (.int 0)) (fun u => [(h, .inr (1, [.ref r]))]) := by
  refine cg_enter rfl (Nat.le_of_ble_eq_true rfl) ?_
  intro p e s m below meth c args hx hb hr hlk hml hown hin hts A hA hK hP hD hS ls hl Q hQ
  have hl : lv_has ls 5 [(0, .ref h), (1, .int q), (2, .int k), (3, .int v0)] := hl
  have hP : va_P D cls ([(h, .inr (1, [.ref r]))]) s.heap := hP
  have hD : va_D A ([(h, .inr (1, [.ref r]))]) := hD
  refine lv_aload_n hx hb d_hh_take_0 rfl (lv_at hl 0 rfl) ?_
  refine lv_iload_n hx hb d_hh_take_1 rfl (lv_at hl 1 rfl) ?_
  refine cg_V (hn := 1) (As := [.int q]) (rest := []) (wr := []) (q0 := 0) (ci := 1) hx hb hml hown hts (c_hh_tableOf_x l D cI cT cP h r q hq) km_hh_18 ki_hh_tableOf ks_hh_tableOf kn_hh kc_hh_tableOf (by decide +kernel) rfl ⟨Nat.le_of_ble_eq_true rfl, Nat.le_of_ble_eq_true rfl⟩ hK hP hD hS hA [0] [] rfl (by decide) rfl (by decide) (by decide) rfl rfl hl.1 rfl (Nat.le_of_ble_eq_true rfl) d_hh_take_2 ⟨Nat.zero_le _, Nat.zero_le _⟩ (fun v u H locs hpost hP hD hS => ?_)
  subst hpost
  refine W.eq (g2 := F0 m 5 ls [.null]) rfl ?_
  have hP : va_P D cls ([(h, .inr (1, [.ref r]))]) H := hP
  have hD : va_D A ([(h, .inr (1, [.ref r]))]) := hD
  refine lv_astoreN (lv' := [(4, .null), (0, .ref h), (1, .int q), (2, .int k), (3, .int v0)]) hx hb d_hh_take_5 hl (by decide) rfl (fun ls hl => ?_)
  refine lv_aloadN hx hb d_hh_take_7 (lv_at hl 0 rfl) ?_
  refine lv_ifnullN (tgt := 26) hx hb d_hh_take_9 (by decide) ?_
  refine lv_iconst (v := 0) hx hb d_hh_take_26 (by decide) ?_
  exact cg_zret (u := ()) hQ hx hb hr hlk hK hP hD hS rfl rfl d_hh_take_27
