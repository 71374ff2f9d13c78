-- Table, outer methods (1): printed by wip/whole/gen/tb5.py
theorem opt_cases {α : Type} (o : Option α) : o = none ∨ ∃ x, o = some x := by
  cases o with
  | none => exact Or.inl rfl
  | some x => exact Or.inr ⟨x, rfl⟩
theorem tn_empty {P N : Nat → Int32} : TN (upd P 0 0) (upd N 0 0) [] := ⟨pk_us, pk_us⟩
theorem us_none {mv : Bool} {k : Int32} {L : List (Int32 × Int32)} (h : lk k L = none) : us mv k L = L := by
  unfold us
  rw [h]
  cases mv <;> rfl
theorem kv_at {K V : Nat → Int32} {R : List Nat} {x : Nat} (hx : x ∈ R) (nd : (R.map K).Nodup) : lk (K x) (kv K V R) = some (V x) := by
  obtain ⟨l1, l2, e⟩ := List.append_of_mem hx
  subst e
  exact (kv_split nd).1
theorem kv_out {K V : Nat → Int32} {R : List Nat} {k : Int32} (h : k ∉ R.map K) : lk k (kv K V R) = none := lk_none (by rw [ks_kv]; exact h)
def njs (j : Nat) (k : Int32) (L : List (Int32 × Int32)) : Nat := match lk k L with
  | none => nj j L.length
  | some _ => j
/-- add -/
def ad (mv : Bool) (k v : Int32) (L : List (Int32 × Int32)) : List (Int32 × Int32) := match lk k L with
  | none => L ++ [(k, v)]
  | some _ => us mv k L
/-- take -/
def tk (k v : Int32) (L : List (Int32 × Int32)) : List (Int32 × Int32) := if lk k L = some v then del k L else L
def zI (b : Bool) : Int32 := if b then 1 else 0
theorem an_none {o : Option Int32} : an o = 1099511627776 ↔ o = none := by
  cases o with
  | none => exact ⟨fun _ => rfl, fun _ => rfl⟩
  | some v =>
    refine ⟨fun h => ?_, fun h => by cases h⟩
    have h1 : v.toInt64.toInt = (1099511627776 : Int64).toInt := by
      have h : v.toInt64 = 1099511627776 := h
      rw [h]
    rw [Int32.toInt_toInt64] at h1
    have h2 := Int32.toInt_lt v
    have h3 : (1099511627776 : Int64).toInt = 1099511627776 := by decide
    omega
theorem lg_eq {x y : Int64} : lg_cmp x y = 0 ↔ x = y := by
  unfold lg_cmp
  by_cases h : x > y
  · rw [if_pos h]
    refine ⟨fun z => absurd z (by decide), fun z => ?_⟩
    rw [z] at h
    exact absurd h (by simp)
  · rw [if_neg h]
    by_cases h2 : x = y
    · rw [if_pos h2]
      exact ⟨fun _ => h2, fun _ => rfl⟩
    · rw [if_neg h2]
      exact ⟨fun z => absurd z (by decide), fun z => absurd z h2⟩
set_option maxRecDepth 100000 in
set_option maxHeartbeats 4000000 in
/-- lookUp(k) -/
theorem c_tb_lookUp (l : Launch) (D : va_G) (cI cT cP : ClassId) (a : Nat) (mv : Bool) (j : Nat) (L : List (Int32 × Int32)) (u0 : TB) (hL : TL j L u0) (k : Int32) : Cg l y_tb_lookUp b_tb_lookUp 3 (some .long) 2 0 0 D (ty3 cI cT cP) [.ref a, .int k] (tw cI a mv j u0) (fun (v : Option Value) (u : TB) => v = some (.long (an (lk k L))) ∧ TL j (us mv k L) u) (fun u => tw cI a mv j u) := by
  obtain ⟨qk, qv, qb, qf, qh, qc, K, V, P, N, G, C, fl, mm, R⟩ := u0
  obtain ⟨Fr, bl, hTA, hTN, hTH, hKn, eL⟩ := hL
  have hTA : TA (2 ^ (4 + j)) j mm R Fr := hTA
  have hTN : TN P N R := hTN
  have hTH : TH (2 ^ (4 + j)) K G C fl R Fr bl := hTH
  have hKn : (R.map K).Nodup := hKn
  have eL : L = kv K V R := eL
  have hLl : L.length = R.length := by rw [eL]; exact List.length_map ..
  have hn : 2 ^ (4 + j) < 2 ^ 31 := (ta_len hTA).2.2
  have hRl : R.length < 2 ^ 31 := (ta_len hTA).2.1
  refine cg_enter rfl (Nat.le_of_ble_eq_true rfl) ?_
  intro p e s m below meth c args hx hb hr hlk hml hown hin hts A hA hK hP hD hS ls hl Q hQ
  have hl : lv_has ls 3 [(0, .ref a), (1, .int k)] := hl
  have hP : va_P D cls (tx cI a (mvI mv) (nI R.length) qk qv qb qf qh qc (2 ^ (4 + j)) K V P N G C fl (nI mm)) s.heap := hP
  have hD : va_D A (tx cI a (mvI mv) (nI R.length) qk qv qb qf qh qc (2 ^ (4 + j)) K V P N G C fl (nI mm)) := hD
  refine lv_aload_n hx hb d_tb_lookUp_0 rfl (lv_at hl 0 rfl) ?_
  refine lv_iload_n hx hb d_tb_lookUp_1 rfl (lv_at hl 1 rfl) ?_
  refine cg_V (hn := 1) (As := [.int k]) (rest := []) (wr := []) (q0 := 0) (ci := 0) hx hb hml hown hts (c_tb_slotOf l D cI cT cP a (mvI mv) qk qv qb qf qh qc (2 ^ (4 + j)) K V P N G C fl (nI mm) j mm R Fr bl hTA hTH hKn k) km_tb_34 ki_tb_slotOf ks_tb_slotOf kn_tb kc_tb_slotOf (by decide +kernel) rfl ⟨Nat.le_of_ble_eq_true rfl, Nat.le_of_ble_eq_true rfl⟩ hK hP hD hS hA [0, 1, 2, 3, 4, 5, 6] [] rfl (by decide) rfl (by decide) (by decide) rfl rfl hl.1 rfl (Nat.le_of_ble_eq_true rfl) d_tb_lookUp_2 ⟨Nat.zero_le _, Nat.zero_le _⟩ (fun v u H locs hpost hP hD hS => ?_)
  subst hpost
  refine W.eq (g2 := F0 m 5 ls [.int (nI (sl K k R))]) rfl ?_
  have hP : va_P D cls (tx cI a (mvI mv) (nI R.length) qk qv qb qf qh qc (2 ^ (4 + j)) K V P N G C fl (nI mm)) H := hP
  have hD : va_D A (tx cI a (mvI mv) (nI R.length) qk qv qb qf qh qc (2 ^ (4 + j)) K V P N G C fl (nI mm)) := hD
  rcases sl_cases K k R with ⟨e0, hno⟩ | ⟨hxR, hke⟩
  · rw [e0]
    have hkL : lk k L = none := by rw [eL]; exact kv_out hno
    refine lv_istore_n (lv' := [(2, .int (nI 0)), (0, .ref a), (1, .int k)]) hx hb d_tb_lookUp_5 rfl hl (by decide) rfl (fun ls hl => ?_)
    refine lv_iload_n hx hb d_tb_lookUp_6 rfl (lv_at hl 0 rfl) ?_
    refine lv_if_ne (tgt := 14) hx hb d_tb_lookUp_7 (by decide) (fun z9 => absurd rfl z9) (fun _ => ?_)
    refine lv_ldc2 hx hb hown (hts _ kk_tb_42) d_tb_lookUp_10 ?_
    exact cg_lret (u := (qk, qv, qb, qf, qh, qc, K, V, P, N, G, C, fl, mm, R)) hQ hx hb hr hlk hK hP hD hS (⟨by rw [hkL]; rfl, by rw [us_none hkL]; exact ⟨Fr, bl, hTA, hTN, hTH, hKn, eL⟩⟩) d_tb_lookUp_13
  · generalize sl K k R = x at *
    have hxn := ta_in hTA hxR
    have hkL : lk k L = some (V x) := by rw [eL, ← hke]; exact kv_at hxR hKn
    refine lv_istore_n (lv' := [(2, .int (nI x)), (0, .ref a), (1, .int k)]) hx hb d_tb_lookUp_5 rfl hl (by decide) rfl (fun ls hl => ?_)
    refine lv_iload_n hx hb d_tb_lookUp_6 rfl (lv_at hl 0 rfl) ?_
    refine lv_if_ne (tgt := 14) hx hb d_tb_lookUp_7 (by decide) (fun _ => ?_) (fun z9 => absurd z9 (nI_ne0 hxn.1 (by omega)))
    refine lv_aload_n hx hb d_tb_lookUp_14 rfl (lv_at hl 1 rfl) ?_
    refine lv_iload_n hx hb d_tb_lookUp_15 rfl (lv_at hl 0 rfl) ?_
    refine cg_V (hn := 1) (As := [.int (nI x)]) (rest := []) (wr := []) (q0 := 0) (ci := 0) hx hb hml hown hts (c_tb_use l D cI cT cP a mv qk qv qb qf qh qc (2 ^ (4 + j)) K V P N G C fl (nI mm) (nI R.length) j mm R Fr hTA hTN hKn x hxR) km_tb_44 ki_tb_use ks_tb_use kn_tb kc_tb_use (by decide +kernel) rfl ⟨Nat.le_of_ble_eq_true rfl, Nat.le_of_ble_eq_true rfl⟩ hK hP hD hS hA [0, 1, 2, 3, 4, 5, 6] [] rfl (by decide) rfl (by decide) (by decide) rfl rfl hl.1 rfl (Nat.le_of_ble_eq_true rfl) d_tb_lookUp_16 ⟨Nat.zero_le _, Nat.zero_le _⟩ (fun v u H locs hpost hP hD hS => ?_)
    obtain ⟨P2, N2⟩ := u
    obtain ⟨e9, R2, hp2, hTN2, ek2⟩ := hpost
    subst e9
    rw [← hp2.length_eq] at hP hD
    refine W.eq (g2 := F0 m 19 ls []) rfl ?_
    have hP : va_P D cls (tx cI a (mvI mv) (nI R2.length) qk qv qb qf qh qc (2 ^ (4 + j)) K V P2 N2 G C fl (nI mm)) H := hP
    have hD : va_D A (tx cI a (mvI mv) (nI R2.length) qk qv qb qf qh qc (2 ^ (4 + j)) K V P2 N2 G C fl (nI mm)) := hD
    have hTN2 : TN P2 N2 R2 := hTN2
    have hKn2 : (R2.map K).Nodup := (hp2.map K).nodup_iff.mpr hKn
    refine lv_aload_n hx hb d_tb_lookUp_19 rfl (lv_at hl 1 rfl) ?_
    refine va_get (D := D) (ci := 0) (v := .ref qv) (C := R_tb) (T := F_tb) (N := 10) hx hb hts i_tb hown hK hP 0 rfl rfl 3 (by decide) (hts _ kf_tb_19) (fun _ h9 => h9) rfl d_tb_lookUp_20 ?_
    refine lv_iload_n hx hb d_tb_lookUp_23 rfl (lv_at hl 0 rfl) ?_
    refine wa_ld (k := x) hx hb hK hP 2 0 rfl rfl hxn.2.2 hn d_tb_lookUp_24 ?_
    refine lv_i2l (v := (V x).toInt64) hx hb d_tb_lookUp_25 rfl ?_
    exact cg_lret (u := (qk, qv, qb, qf, qh, qc, K, V, P2, N2, G, C, fl, mm, R2)) hQ hx hb hr hlk hK hP hD hS (⟨by rw [hkL]; rfl, Fr, bl, ta_perm hTA hp2, hTN2, th_perm hTH hp2, hKn2, by rw [eL, ← hke]; exact ek2.symm⟩) d_tb_lookUp_26
set_option maxRecDepth 100000 in
set_option maxHeartbeats 4000000 in
/-- store(k, v0) -/
theorem c_tb_store (l : Launch) (D : va_G) (cI cT cP : ClassId) (a : Nat) (mv : Bool) (j : Nat) (L : List (Int32 × Int32)) (u0 : TB) (hL : TL j L u0) (k v0 : Int32) (hlen : L.length < 2047) : Cg l y_tb_store b_tb_store 6 (some .long) 4 (mcT j (njs j k L)) (msT j (njs j k L)) D (ty3 cI cT cP) [.ref a, .int k, .int v0] (tw cI a mv j u0) (fun (v : Option Value) (u : TB) => v = some (.long (an (lk k L))) ∧ TL (njs j k L) (st mv k v0 L) u) (fun u => tw cI a mv (njs j k L) u) := by
  obtain ⟨qk, qv, qb, qf, qh, qc, K, V, P, N, G, C, fl, mm, R⟩ := u0
  obtain ⟨Fr, bl, hTA, hTN, hTH, hKn, eL⟩ := hL
  have hTA : TA (2 ^ (4 + j)) j mm R Fr := hTA
  have hTN : TN P N R := hTN
  have hTH : TH (2 ^ (4 + j)) K G C fl R Fr bl := hTH
  have hKn : (R.map K).Nodup := hKn
  have eL : L = kv K V R := eL
  have hLl : L.length = R.length := by rw [eL]; exact List.length_map ..
  have hn : 2 ^ (4 + j) < 2 ^ 31 := (ta_len hTA).2.2
  have hRl : R.length < 2 ^ 31 := (ta_len hTA).2.1
  refine cg_enter rfl (Nat.le_of_ble_eq_true rfl) ?_
  intro p e s m below meth c args hx hb hr hlk hml hown hin hts A hA hK hP hD hS ls hl Q hQ
  have hl : lv_has ls 6 [(0, .ref a), (1, .int k), (2, .int v0)] := hl
  have hP : va_P D cls (tx cI a (mvI mv) (nI R.length) qk qv qb qf qh qc (2 ^ (4 + j)) K V P N G C fl (nI mm)) s.heap := hP
  have hD : va_D A (tx cI a (mvI mv) (nI R.length) qk qv qb qf qh qc (2 ^ (4 + j)) K V P N G C fl (nI mm)) := hD
  refine lv_aload_n hx hb d_tb_store_0 rfl (lv_at hl 0 rfl) ?_
  refine lv_iload_n hx hb d_tb_store_1 rfl (lv_at hl 1 rfl) ?_
  refine cg_V (hn := 1) (As := [.int k]) (rest := []) (wr := []) (q0 := 0) (ci := 0) hx hb hml hown hts (c_tb_slotOf l D cI cT cP a (mvI mv) qk qv qb qf qh qc (2 ^ (4 + j)) K V P N G C fl (nI mm) j mm R Fr bl hTA hTH hKn k) km_tb_34 ki_tb_slotOf ks_tb_slotOf kn_tb kc_tb_slotOf (by decide +kernel) rfl ⟨Nat.le_of_ble_eq_true rfl, Nat.le_of_ble_eq_true rfl⟩ hK hP hD hS hA [0, 1, 2, 3, 4, 5, 6] [] rfl (by decide) rfl (by decide) (by decide) rfl rfl hl.1 rfl (Nat.le_of_ble_eq_true rfl) d_tb_store_2 ⟨Nat.zero_le _, Nat.zero_le _⟩ (fun v u H locs hpost hP hD hS => ?_)
  subst hpost
  refine W.eq (g2 := F0 m 5 ls [.int (nI (sl K k R))]) rfl ?_
  have hP : va_P D cls (tx cI a (mvI mv) (nI R.length) qk qv qb qf qh qc (2 ^ (4 + j)) K V P N G C fl (nI mm)) H := hP
  have hD : va_D A (tx cI a (mvI mv) (nI R.length) qk qv qb qf qh qc (2 ^ (4 + j)) K V P N G C fl (nI mm)) := hD
  rcases sl_cases K k R with ⟨e0, hno⟩ | ⟨hxR, hke⟩
  · rw [e0]
    have hkL : lk k L = none := by rw [eL]; exact kv_out hno
    have ej : njs j k L = nj j R.length := by unfold njs; rw [hkL, hLl]
    refine lv_istore_n (lv' := [(3, .int (nI 0)), (0, .ref a), (1, .int k), (2, .int v0)]) hx hb d_tb_store_5 rfl hl (by decide) rfl (fun ls hl => ?_)
    refine lv_iload_n hx hb d_tb_store_6 rfl (lv_at hl 0 rfl) ?_
    refine lv_if_ne (tgt := 20) hx hb d_tb_store_7 (by decide) (fun z9 => absurd rfl z9) (fun _ => ?_)
    refine lv_aload_n hx hb d_tb_store_10 rfl (lv_at hl 1 rfl) ?_
    refine lv_iload_n hx hb d_tb_store_11 rfl (lv_at hl 2 rfl) ?_
    refine lv_iload_n hx hb d_tb_store_12 rfl (lv_at hl 3 rfl) ?_
    refine cg_V (hn := 2) (As := [.int k, .int v0]) (rest := []) (wr := []) (q0 := 0) (ci := 0) hx hb hml hown hts (c_tb_insert l D cI cT cP a mv qk qv qb qf qh qc K V P N G C fl j mm R Fr bl hTA hTN hTH hKn k v0 hno (by omega)) km_tb_38 ki_tb_insert ks_tb_insert kn_tb kc_tb_insert (by decide +kernel) rfl ⟨Nat.le_of_ble_eq_true rfl, Nat.le_of_ble_eq_true rfl⟩ hK hP hD hS hA [0, 1, 2, 3, 4, 5, 6] [] rfl (by decide) rfl (by decide) (by decide) rfl rfl hl.1 rfl (Nat.le_of_ble_eq_true rfl) d_tb_store_13 ⟨Nat.le_of_eq (by show 0 + mcT j (nj j R.length) = mcT j (njs j k L); rw [ej, Nat.zero_add]), Nat.le_of_eq (by show 0 + msT j (nj j R.length) = msT j (njs j k L); rw [ej, Nat.zero_add])⟩ (fun v u H locs hpost hP hD hS => ?_)
    obtain ⟨e9, hT2⟩ := hpost
    subst e9
    rw [← ej] at hP hD hT2
    refine W.eq (g2 := F0 m 16 ls []) rfl ?_
    have hP : va_P D cls (tw cI a mv (njs j k L) u) H := hP
    have hD : va_D A (tw cI a mv (njs j k L) u) := hD
    refine W.widen (k := mcT j (njs j k L)) (n := msT j (njs j k L)) (Nat.le_of_eq (by rw [ej]; simp)) (Nat.le_of_eq (by rw [ej]; simp)) ?_
    refine lv_ldc2 hx hb hown (hts _ kk_tb_42) d_tb_store_16 ?_
    exact cg_lret (u := u) hQ hx hb hr hlk hK hP hD hS (⟨by rw [hkL]; rfl, by unfold st; rw [hkL]; show TL _ (L ++ [(k, v0)]) u; rw [eL] at hT2 ⊢; exact hT2⟩) d_tb_store_19
  · generalize sl K k R = x at *
    have hxn := ta_in hTA hxR
    have hkL : lk k L = some (V x) := by rw [eL, ← hke]; exact kv_at hxR hKn
    have ej : njs j k L = j := by unfold njs; rw [hkL]
    refine lv_istore_n (lv' := [(3, .int (nI x)), (0, .ref a), (1, .int k), (2, .int v0)]) hx hb d_tb_store_5 rfl hl (by decide) rfl (fun ls hl => ?_)
    refine lv_iload_n hx hb d_tb_store_6 rfl (lv_at hl 0 rfl) ?_
    refine lv_if_ne (tgt := 20) hx hb d_tb_store_7 (by decide) (fun _ => ?_) (fun z9 => absurd z9 (nI_ne0 hxn.1 (by omega)))
    refine lv_aload_n hx hb d_tb_store_20 rfl (lv_at hl 1 rfl) ?_
    refine va_get (D := D) (ci := 0) (v := .ref qv) (C := R_tb) (T := F_tb) (N := 10) hx hb hts i_tb hown hK hP 0 rfl rfl 3 (by decide) (hts _ kf_tb_19) (fun _ h9 => h9) rfl d_tb_store_21 ?_
    refine lv_iload_n hx hb d_tb_store_24 rfl (lv_at hl 0 rfl) ?_
    refine wa_ld (k := x) hx hb hK hP 2 0 rfl rfl hxn.2.2 hn d_tb_store_25 ?_
    refine lv_i2l (v := (V x).toInt64) hx hb d_tb_store_26 rfl ?_
    refine lv_lstore (lv' := [(4, .long (V x).toInt64), (3, .int (nI x)), (0, .ref a), (1, .int k), (2, .int v0)]) hx hb d_tb_store_27 hl (by decide) rfl (fun ls hl => ?_)
    refine lv_aload_n hx hb d_tb_store_29 rfl (lv_at hl 2 rfl) ?_
    refine va_get (D := D) (ci := 0) (v := .ref qv) (C := R_tb) (T := F_tb) (N := 10) hx hb hts i_tb hown hK hP 0 rfl rfl 3 (by decide) (hts _ kf_tb_19) (fun _ h9 => h9) rfl d_tb_store_30 ?_
    refine lv_iload_n hx hb d_tb_store_33 rfl (lv_at hl 1 rfl) ?_
    refine lv_iload_n hx hb d_tb_store_34 rfl (lv_at hl 4 rfl) ?_
    refine wa_st (k := x) (x := v0) hx hb hK hP hD hS 2 0 rfl rfl hxn.2.2 hn d_tb_store_35 (fun H locs hP hD hS => ?_)
    have hP : va_P D cls (tx cI a (mvI mv) (nI R.length) qk qv qb qf qh qc (2 ^ (4 + j)) K (upd V x v0) P N G C fl (nI mm)) H := hP
    have hD : va_D A (tx cI a (mvI mv) (nI R.length) qk qv qb qf qh qc (2 ^ (4 + j)) K (upd V x v0) P N G C fl (nI mm)) := hD
    refine lv_aload_n hx hb d_tb_store_36 rfl (lv_at hl 2 rfl) ?_
    refine lv_iload_n hx hb d_tb_store_37 rfl (lv_at hl 1 rfl) ?_
    refine cg_V (hn := 1) (As := [.int (nI x)]) (rest := []) (wr := []) (q0 := 0) (ci := 0) hx hb hml hown hts (c_tb_use l D cI cT cP a mv qk qv qb qf qh qc (2 ^ (4 + j)) K (upd V x v0) P N G C fl (nI mm) (nI R.length) j mm R Fr hTA hTN hKn x hxR) km_tb_44 ki_tb_use ks_tb_use kn_tb kc_tb_use (by decide +kernel) rfl ⟨Nat.le_of_ble_eq_true rfl, Nat.le_of_ble_eq_true rfl⟩ hK hP hD hS hA [0, 1, 2, 3, 4, 5, 6] [] rfl (by decide) rfl (by decide) (by decide) rfl rfl hl.1 rfl (Nat.le_of_ble_eq_true rfl) d_tb_store_38 ⟨Nat.zero_le _, Nat.zero_le _⟩ (fun v u H locs hpost hP hD hS => ?_)
    obtain ⟨P2, N2⟩ := u
    obtain ⟨e9, R2, hp2, hTN2, ek2⟩ := hpost
    subst e9
    rw [← hp2.length_eq] at hP hD
    refine W.eq (g2 := F0 m 41 ls []) rfl ?_
    have hP : va_P D cls (tx cI a (mvI mv) (nI R2.length) qk qv qb qf qh qc (2 ^ (4 + j)) K (upd V x v0) P2 N2 G C fl (nI mm)) H := hP
    have hD : va_D A (tx cI a (mvI mv) (nI R2.length) qk qv qb qf qh qc (2 ^ (4 + j)) K (upd V x v0) P2 N2 G C fl (nI mm)) := hD
    have hTN2 : TN P2 N2 R2 := hTN2
    have hKn2 : (R2.map K).Nodup := (hp2.map K).nodup_iff.mpr hKn
    refine W.widen (k := mcT j (njs j k L)) (n := msT j (njs j k L)) (by show 0 + 0 + 0 ≤ _; exact Nat.zero_le _) (by show 0 + 0 + 0 ≤ _; exact Nat.zero_le _) ?_
    refine lv_lload hx hb d_tb_store_41 (lv_at hl 0 rfl) ?_
    have ekv : st mv k v0 L = kv K (upd V x v0) R2 := by
      unfold st
      rw [hkL]
      show us mv k (setv k v0 L) = _
      obtain ⟨l1, l2, eR⟩ := List.append_of_mem hxR
      have h3 := (kv_split (K := K) (V := V) (l1 := l1) (l2 := l2) (x := x) (by rw [← eR]; exact hKn)).2.2 v0
      rw [← eR, hke, ← eL] at h3
      rw [h3, ek2, hke]
    have hP : va_P D cls (tw cI a mv (njs j k L) (qk, qv, qb, qf, qh, qc, K, upd V x v0, P2, N2, G, C, fl, mm, R2)) H := by rw [ej]; exact hP
    have hD : va_D A (tw cI a mv (njs j k L) (qk, qv, qb, qf, qh, qc, K, upd V x v0, P2, N2, G, C, fl, mm, R2)) := by rw [ej]; exact hD
    exact cg_lret (u := (qk, qv, qb, qf, qh, qc, K, upd V x v0, P2, N2, G, C, fl, mm, R2)) hQ hx hb hr hlk hK hP hD hS (⟨by rw [hkL]; rfl, by rw [ej]; exact ⟨Fr, bl, ta_perm hTA hp2, hTN2, th_perm hTH hp2, hKn2, ekv⟩⟩) d_tb_store_43
set_option maxRecDepth 100000 in
set_option maxHeartbeats 4000000 in
/-- storeIfNew(k, v0) -/
theorem c_tb_storeIfNew (l : Launch) (D : va_G) (cI cT cP : ClassId) (a : Nat) (mv : Bool) (j : Nat) (L : List (Int32 × Int32)) (u0 : TB) (hL : TL j L u0) (k v0 : Int32) (hlen : L.length < 2047) : Cg l y_tb_storeIfNew b_tb_storeIfNew 5 (some .long) 4 (mcT j (njs j k L)) (msT j (njs j k L)) D (ty3 cI cT cP) [.ref a, .int k, .int v0] (tw cI a mv j u0) (fun (v : Option Value) (u : TB) => v = some (.long (an (lk k L))) ∧ TL (njs j k L) (ad mv k v0 L) u) (fun u => tw cI a mv (njs j k L) u) := by
  obtain ⟨qk, qv, qb, qf, qh, qc, K, V, P, N, G, C, fl, mm, R⟩ := u0
  obtain ⟨Fr, bl, hTA, hTN, hTH, hKn, eL⟩ := hL
  have hTA : TA (2 ^ (4 + j)) j mm R Fr := hTA
  have hTN : TN P N R := hTN
  have hTH : TH (2 ^ (4 + j)) K G C fl R Fr bl := hTH
  have hKn : (R.map K).Nodup := hKn
  have eL : L = kv K V R := eL
  have hLl : L.length = R.length := by rw [eL]; exact List.length_map ..
  have hn : 2 ^ (4 + j) < 2 ^ 31 := (ta_len hTA).2.2
  have hRl : R.length < 2 ^ 31 := (ta_len hTA).2.1
  refine cg_enter rfl (Nat.le_of_ble_eq_true rfl) ?_
  intro p e s m below meth c args hx hb hr hlk hml hown hin hts A hA hK hP hD hS ls hl Q hQ
  have hl : lv_has ls 5 [(0, .ref a), (1, .int k), (2, .int v0)] := hl
  have hP : va_P D cls (tx cI a (mvI mv) (nI R.length) qk qv qb qf qh qc (2 ^ (4 + j)) K V P N G C fl (nI mm)) s.heap := hP
  have hD : va_D A (tx cI a (mvI mv) (nI R.length) qk qv qb qf qh qc (2 ^ (4 + j)) K V P N G C fl (nI mm)) := hD
  refine lv_aload_n hx hb d_tb_storeIfNew_0 rfl (lv_at hl 0 rfl) ?_
  refine lv_iload_n hx hb d_tb_storeIfNew_1 rfl (lv_at hl 1 rfl) ?_
  refine cg_V (hn := 1) (As := [.int k]) (rest := []) (wr := []) (q0 := 0) (ci := 0) hx hb hml hown hts (c_tb_lookUp l D cI cT cP a mv j L (qk, qv, qb, qf, qh, qc, K, V, P, N, G, C, fl, mm, R) ⟨Fr, bl, hTA, hTN, hTH, hKn, eL⟩ k) km_tb_48 ki_tb_lookUp ks_tb_lookUp kn_tb kc_tb_lookUp (by decide +kernel) rfl ⟨Nat.le_of_ble_eq_true rfl, Nat.le_of_ble_eq_true rfl⟩ hK hP hD hS hA [0, 1, 2, 3, 4, 5, 6] [] rfl (by decide) rfl (by decide) (by decide) rfl rfl hl.1 rfl (Nat.le_of_ble_eq_true rfl) d_tb_storeIfNew_2 ⟨Nat.zero_le _, Nat.zero_le _⟩ (fun v u H locs hpost hP hD hS => ?_)
  obtain ⟨e9, hT2⟩ := hpost
  subst e9
  refine W.eq (g2 := F0 m 5 ls [.long (an (lk k L))]) rfl ?_
  have hP : va_P D cls (tw cI a mv j u) H := hP
  have hD : va_D A (tw cI a mv j u) := hD
  clear hTA hTN hTH hKn eL hLl hn hRl
  obtain ⟨qk, qv, qb, qf, qh, qc, K, V, P, N, G, C, fl, mm, R⟩ := u
  obtain ⟨Fr, bl, hTA, hTN, hTH, hKn, eL⟩ := hT2
  have hTA : TA (2 ^ (4 + j)) j mm R Fr := hTA
  have hTN : TN P N R := hTN
  have hTH : TH (2 ^ (4 + j)) K G C fl R Fr bl := hTH
  have hKn : (R.map K).Nodup := hKn
  have eL : us mv k L = kv K V R := eL
  rcases opt_cases (lk k L) with hkL | ⟨v9, hkL⟩
  · rw [us_none hkL] at eL
    have hLl : L.length = R.length := by rw [eL]; exact List.length_map ..
    have hno : k ∉ R.map K := by
      have h1 := lk_key.mp hkL
      rw [eL, ks_kv] at h1
      exact h1
    have ej : njs j k L = nj j R.length := by unfold njs; rw [hkL, hLl]
    have e8 : an (lk k L) = 1099511627776 := by rw [hkL]; rfl
    have hP : va_P D cls (tx cI a (mvI mv) (nI R.length) qk qv qb qf qh qc (2 ^ (4 + j)) K V P N G C fl (nI mm)) H := hP
    have hD : va_D A (tx cI a (mvI mv) (nI R.length) qk qv qb qf qh qc (2 ^ (4 + j)) K V P N G C fl (nI mm)) := hD
    refine lv_lstore_n (lv' := [(3, .long (an (lk k L))), (0, .ref a), (1, .int k), (2, .int v0)]) hx hb d_tb_storeIfNew_5 rfl hl (by decide) rfl (fun ls hl => ?_)
    refine lv_lload_n hx hb d_tb_storeIfNew_6 rfl (lv_at hl 0 rfl) ?_
    refine lv_ldc2 hx hb hown (hts _ kk_tb_42) d_tb_storeIfNew_7 ?_
    refine W.lcmp hx hb d_tb_storeIfNew_10 ?_
    refine lv_if_ne (tgt := 20) hx hb d_tb_storeIfNew_11 (by decide) (fun z9 => absurd (lg_eq.mpr e8) z9) (fun _ => ?_)
    refine lv_aload_n hx hb d_tb_storeIfNew_14 rfl (lv_at hl 1 rfl) ?_
    refine lv_iload_n hx hb d_tb_storeIfNew_15 rfl (lv_at hl 2 rfl) ?_
    refine lv_iload_n hx hb d_tb_storeIfNew_16 rfl (lv_at hl 3 rfl) ?_
    refine cg_V (hn := 2) (As := [.int k, .int v0]) (rest := []) (wr := []) (q0 := 0) (ci := 0) hx hb hml hown hts (c_tb_insert l D cI cT cP a mv qk qv qb qf qh qc K V P N G C fl j mm R Fr bl hTA hTN hTH hKn k v0 hno (by omega)) km_tb_38 ki_tb_insert ks_tb_insert kn_tb kc_tb_insert (by decide +kernel) rfl ⟨Nat.le_of_ble_eq_true rfl, Nat.le_of_ble_eq_true rfl⟩ hK hP hD hS hA [0, 1, 2, 3, 4, 5, 6] [] rfl (by decide) rfl (by decide) (by decide) rfl rfl hl.1 rfl (Nat.le_of_ble_eq_true rfl) d_tb_storeIfNew_17 ⟨Nat.le_of_eq (by show 0 + mcT j (nj j R.length) = mcT j (njs j k L); rw [ej, Nat.zero_add]), Nat.le_of_eq (by show 0 + msT j (nj j R.length) = msT j (njs j k L); rw [ej, Nat.zero_add])⟩ (fun v u H locs hpost hP hD hS => ?_)
    obtain ⟨e9, hT2⟩ := hpost
    subst e9
    rw [← ej] at hP hD hT2
    refine W.eq (g2 := F0 m 20 ls []) rfl ?_
    have hP : va_P D cls (tw cI a mv (njs j k L) u) H := hP
    have hD : va_D A (tw cI a mv (njs j k L) u) := hD
    refine W.widen (k := mcT j (njs j k L)) (n := msT j (njs j k L)) (Nat.le_of_eq (by rw [ej]; simp)) (Nat.le_of_eq (by rw [ej]; simp)) ?_
    refine lv_lload_n hx hb d_tb_storeIfNew_20 rfl (lv_at hl 0 rfl) ?_
    exact cg_lret (u := u) hQ hx hb hr hlk hK hP hD hS (⟨rfl, by unfold ad; rw [hkL]; show TL _ (L ++ [(k, v0)]) u; rw [eL] at hT2 ⊢; exact hT2⟩) d_tb_storeIfNew_21
  · have ej : njs j k L = j := by unfold njs; rw [hkL]
    have e8 : ¬ an (lk k L) = 1099511627776 := fun z9 => by rw [an_none.mp z9] at hkL; cases hkL
    have hP : va_P D cls (tx cI a (mvI mv) (nI R.length) qk qv qb qf qh qc (2 ^ (4 + j)) K V P N G C fl (nI mm)) H := hP
    have hD : va_D A (tx cI a (mvI mv) (nI R.length) qk qv qb qf qh qc (2 ^ (4 + j)) K V P N G C fl (nI mm)) := hD
    refine lv_lstore_n (lv' := [(3, .long (an (lk k L))), (0, .ref a), (1, .int k), (2, .int v0)]) hx hb d_tb_storeIfNew_5 rfl hl (by decide) rfl (fun ls hl => ?_)
    refine lv_lload_n hx hb d_tb_storeIfNew_6 rfl (lv_at hl 0 rfl) ?_
    refine lv_ldc2 hx hb hown (hts _ kk_tb_42) d_tb_storeIfNew_7 ?_
    refine W.lcmp hx hb d_tb_storeIfNew_10 ?_
    refine lv_if_ne (tgt := 20) hx hb d_tb_storeIfNew_11 (by decide) (fun _ => ?_) (fun z9 => absurd z9 (fun z9 => e8 (lg_eq.mp z9)))
    refine lv_lload_n hx hb d_tb_storeIfNew_20 rfl (lv_at hl 0 rfl) ?_
    refine W.widen (k := mcT j (njs j k L)) (n := msT j (njs j k L)) (by show 0 + 0 ≤ _; exact Nat.zero_le _) (by show 0 + 0 ≤ _; exact Nat.zero_le _) ?_
    have hP : va_P D cls (tw cI a mv (njs j k L) (qk, qv, qb, qf, qh, qc, K, V, P, N, G, C, fl, mm, R)) H := by rw [ej]; exact hP
    have hD : va_D A (tw cI a mv (njs j k L) (qk, qv, qb, qf, qh, qc, K, V, P, N, G, C, fl, mm, R)) := by rw [ej]; exact hD
    exact cg_lret (u := (qk, qv, qb, qf, qh, qc, K, V, P, N, G, C, fl, mm, R)) hQ hx hb hr hlk hK hP hD hS (⟨rfl, by rw [ej]; exact ⟨Fr, bl, hTA, hTN, hTH, hKn, by unfold ad; rw [hkL]; exact eL⟩⟩) d_tb_storeIfNew_21
set_option maxRecDepth 100000 in
set_option maxHeartbeats 4000000 in
/-- holdsKey(k) -/
theorem c_tb_holdsKey (l : Launch) (D : va_G) (cI cT cP : ClassId) (a : Nat) (mv : Bool) (j : Nat) (L : List (Int32 × Int32)) (u0 : TB) (hL : TL j L u0) (k : Int32) : Cg l y_tb_holdsKey b_tb_holdsKey 2 (some .boolean) 2 0 0 D (ty3 cI cT cP) [.ref a, .int k] (tw cI a mv j u0) (fun (v : Option Value) (u : Unit) => v = some (.int (zI (lk k L).isSome))) (fun u => tw cI a mv j u0) := by
  obtain ⟨qk, qv, qb, qf, qh, qc, K, V, P, N, G, C, fl, mm, R⟩ := u0
  obtain ⟨Fr, bl, hTA, hTN, hTH, hKn, eL⟩ := hL
  have hTA : TA (2 ^ (4 + j)) j mm R Fr := hTA
  have hTN : TN P N R := hTN
  have hTH : TH (2 ^ (4 + j)) K G C fl R Fr bl := hTH
  have hKn : (R.map K).Nodup := hKn
  have eL : L = kv K V R := eL
  have hLl : L.length = R.length := by rw [eL]; exact List.length_map ..
  have hn : 2 ^ (4 + j) < 2 ^ 31 := (ta_len hTA).2.2
  have hRl : R.length < 2 ^ 31 := (ta_len hTA).2.1
  refine cg_enter rfl (Nat.le_of_ble_eq_true rfl) ?_
  intro p e s m below meth c args hx hb hr hlk hml hown hin hts A hA hK hP hD hS ls hl Q hQ
  have hl : lv_has ls 2 [(0, .ref a), (1, .int k)] := hl
  have hP : va_P D cls (tx cI a (mvI mv) (nI R.length) qk qv qb qf qh qc (2 ^ (4 + j)) K V P N G C fl (nI mm)) s.heap := hP
  have hD : va_D A (tx cI a (mvI mv) (nI R.length) qk qv qb qf qh qc (2 ^ (4 + j)) K V P N G C fl (nI mm)) := hD
  refine lv_aload_n hx hb d_tb_holdsKey_0 rfl (lv_at hl 0 rfl) ?_
  refine lv_iload_n hx hb d_tb_holdsKey_1 rfl (lv_at hl 1 rfl) ?_
  refine cg_V (hn := 1) (As := [.int k]) (rest := []) (wr := []) (q0 := 0) (ci := 0) hx hb hml hown hts (c_tb_slotOf l D cI cT cP a (mvI mv) qk qv qb qf qh qc (2 ^ (4 + j)) K V P N G C fl (nI mm) j mm R Fr bl hTA hTH hKn k) km_tb_34 ki_tb_slotOf ks_tb_slotOf kn_tb kc_tb_slotOf (by decide +kernel) rfl ⟨Nat.le_of_ble_eq_true rfl, Nat.le_of_ble_eq_true rfl⟩ hK hP hD hS hA [0, 1, 2, 3, 4, 5, 6] [] rfl (by decide) rfl (by decide) (by decide) rfl rfl hl.1 rfl (Nat.le_of_ble_eq_true rfl) d_tb_holdsKey_2 ⟨Nat.zero_le _, Nat.zero_le _⟩ (fun v u H locs hpost hP hD hS => ?_)
  subst hpost
  refine W.eq (g2 := F0 m 5 ls [.int (nI (sl K k R))]) rfl ?_
  have hP : va_P D cls (tx cI a (mvI mv) (nI R.length) qk qv qb qf qh qc (2 ^ (4 + j)) K V P N G C fl (nI mm)) H := hP
  have hD : va_D A (tx cI a (mvI mv) (nI R.length) qk qv qb qf qh qc (2 ^ (4 + j)) K V P N G C fl (nI mm)) := hD
  rcases sl_cases K k R with ⟨e0, hno⟩ | ⟨hxR, hke⟩
  · rw [e0]
    have hkL : lk k L = none := by rw [eL]; exact kv_out hno
    refine lv_if_eq (tgt := 12) hx hb d_tb_holdsKey_5 (by decide) (fun _ => ?_) (fun z9 => absurd rfl z9)
    refine lv_iconst (v := 0) hx hb d_tb_holdsKey_12 (by decide) ?_
    exact cg_zret (u := ()) hQ hx hb hr hlk hK hP hD hS rfl (by rw [hkL]; rfl) d_tb_holdsKey_13
  · generalize sl K k R = x at *
    have hxn := ta_in hTA hxR
    have hkL : lk k L = some (V x) := by rw [eL, ← hke]; exact kv_at hxR hKn
    refine lv_if_eq (tgt := 12) hx hb d_tb_holdsKey_5 (by decide) (fun z9 => absurd z9 (nI_ne0 hxn.1 (by omega))) (fun _ => ?_)
    refine lv_iconst (v := 1) hx hb d_tb_holdsKey_8 (by decide) ?_
    refine lv_goto (tgt := 13) hx hb d_tb_holdsKey_9 (by decide) ?_
    exact cg_zret (u := ()) hQ hx hb hr hlk hK hP hD hS rfl (by rw [hkL]; rfl) d_tb_holdsKey_13
set_option maxRecDepth 100000 in
set_option maxHeartbeats 4000000 in
/-- dropKey(k) -/
theorem c_tb_dropKey (l : Launch) (D : va_G) (cI cT cP : ClassId) (a : Nat) (mv : Bool) (j : Nat) (L : List (Int32 × Int32)) (u0 : TB) (hL : TL j L u0) (k : Int32) : Cg l y_tb_dropKey b_tb_dropKey 5 (some .long) 3 0 0 D (ty3 cI cT cP) [.ref a, .int k] (tw cI a mv j u0) (fun (v : Option Value) (u : TB) => v = some (.long (an (lk k L))) ∧ TL j (del k L) u) (fun u => tw cI a mv j u) := by
  obtain ⟨qk, qv, qb, qf, qh, qc, K, V, P, N, G, C, fl, mm, R⟩ := u0
  obtain ⟨Fr, bl, hTA, hTN, hTH, hKn, eL⟩ := hL
  have hTA : TA (2 ^ (4 + j)) j mm R Fr := hTA
  have hTN : TN P N R := hTN
  have hTH : TH (2 ^ (4 + j)) K G C fl R Fr bl := hTH
  have hKn : (R.map K).Nodup := hKn
  have eL : L = kv K V R := eL
  have hLl : L.length = R.length := by rw [eL]; exact List.length_map ..
  have hn : 2 ^ (4 + j) < 2 ^ 31 := (ta_len hTA).2.2
  have hRl : R.length < 2 ^ 31 := (ta_len hTA).2.1
  refine cg_enter rfl (Nat.le_of_ble_eq_true rfl) ?_
  intro p e s m below meth c args hx hb hr hlk hml hown hin hts A hA hK hP hD hS ls hl Q hQ
  have hl : lv_has ls 5 [(0, .ref a), (1, .int k)] := hl
  have hP : va_P D cls (tx cI a (mvI mv) (nI R.length) qk qv qb qf qh qc (2 ^ (4 + j)) K V P N G C fl (nI mm)) s.heap := hP
  have hD : va_D A (tx cI a (mvI mv) (nI R.length) qk qv qb qf qh qc (2 ^ (4 + j)) K V P N G C fl (nI mm)) := hD
  refine lv_aload_n hx hb d_tb_dropKey_0 rfl (lv_at hl 0 rfl) ?_
  refine lv_iload_n hx hb d_tb_dropKey_1 rfl (lv_at hl 1 rfl) ?_
  refine cg_V (hn := 1) (As := [.int k]) (rest := []) (wr := []) (q0 := 0) (ci := 0) hx hb hml hown hts (c_tb_slotOf l D cI cT cP a (mvI mv) qk qv qb qf qh qc (2 ^ (4 + j)) K V P N G C fl (nI mm) j mm R Fr bl hTA hTH hKn k) km_tb_34 ki_tb_slotOf ks_tb_slotOf kn_tb kc_tb_slotOf (by decide +kernel) rfl ⟨Nat.le_of_ble_eq_true rfl, Nat.le_of_ble_eq_true rfl⟩ hK hP hD hS hA [0, 1, 2, 3, 4, 5, 6] [] rfl (by decide) rfl (by decide) (by decide) rfl rfl hl.1 rfl (Nat.le_of_ble_eq_true rfl) d_tb_dropKey_2 ⟨Nat.zero_le _, Nat.zero_le _⟩ (fun v u H locs hpost hP hD hS => ?_)
  subst hpost
  refine W.eq (g2 := F0 m 5 ls [.int (nI (sl K k R))]) rfl ?_
  have hP : va_P D cls (tx cI a (mvI mv) (nI R.length) qk qv qb qf qh qc (2 ^ (4 + j)) K V P N G C fl (nI mm)) H := hP
  have hD : va_D A (tx cI a (mvI mv) (nI R.length) qk qv qb qf qh qc (2 ^ (4 + j)) K V P N G C fl (nI mm)) := hD
  rcases sl_cases K k R with ⟨e0, hno⟩ | ⟨hxR, hke⟩
  · rw [e0]
    have hkL : lk k L = none := by rw [eL]; exact kv_out hno
    refine lv_istore_n (lv' := [(2, .int (nI 0)), (0, .ref a), (1, .int k)]) hx hb d_tb_dropKey_5 rfl hl (by decide) rfl (fun ls hl => ?_)
    refine lv_iload_n hx hb d_tb_dropKey_6 rfl (lv_at hl 0 rfl) ?_
    refine lv_if_ne (tgt := 14) hx hb d_tb_dropKey_7 (by decide) (fun z9 => absurd rfl z9) (fun _ => ?_)
    refine lv_ldc2 hx hb hown (hts _ kk_tb_42) d_tb_dropKey_10 ?_
    exact cg_lret (u := (qk, qv, qb, qf, qh, qc, K, V, P, N, G, C, fl, mm, R)) hQ hx hb hr hlk hK hP hD hS (⟨by rw [hkL]; rfl, by rw [del_out (lk_key.mp hkL)]; exact ⟨Fr, bl, hTA, hTN, hTH, hKn, eL⟩⟩) d_tb_dropKey_13
  · generalize sl K k R = x at *
    have hxn := ta_in hTA hxR
    have hkL : lk k L = some (V x) := by rw [eL, ← hke]; exact kv_at hxR hKn
    refine lv_istore_n (lv' := [(2, .int (nI x)), (0, .ref a), (1, .int k)]) hx hb d_tb_dropKey_5 rfl hl (by decide) rfl (fun ls hl => ?_)
    refine lv_iload_n hx hb d_tb_dropKey_6 rfl (lv_at hl 0 rfl) ?_
    refine lv_if_ne (tgt := 14) hx hb d_tb_dropKey_7 (by decide) (fun _ => ?_) (fun z9 => absurd z9 (nI_ne0 hxn.1 (by omega)))
    refine lv_aload_n hx hb d_tb_dropKey_14 rfl (lv_at hl 1 rfl) ?_
    refine va_get (D := D) (ci := 0) (v := .ref qv) (C := R_tb) (T := F_tb) (N := 10) hx hb hts i_tb hown hK hP 0 rfl rfl 3 (by decide) (hts _ kf_tb_19) (fun _ h9 => h9) rfl d_tb_dropKey_15 ?_
    refine lv_iload_n hx hb d_tb_dropKey_18 rfl (lv_at hl 0 rfl) ?_
    refine wa_ld (k := x) hx hb hK hP 2 0 rfl rfl hxn.2.2 hn d_tb_dropKey_19 ?_
    refine lv_i2l (v := (V x).toInt64) hx hb d_tb_dropKey_20 rfl ?_
    refine lv_lstore_n (lv' := [(3, .long (V x).toInt64), (2, .int (nI x)), (0, .ref a), (1, .int k)]) hx hb d_tb_dropKey_21 rfl hl (by decide) rfl (fun ls hl => ?_)
    refine lv_aload_n hx hb d_tb_dropKey_22 rfl (lv_at hl 2 rfl) ?_
    refine lv_iload_n hx hb d_tb_dropKey_23 rfl (lv_at hl 1 rfl) ?_
    obtain ⟨l1, l2, eR⟩ := List.append_of_mem hxR
    subst eR
    obtain ⟨q1, q2, q3⟩ := tn_cut (ta_nd0 hTA) hTN
    have hdel : del (K x) L = kv K V (l1 ++ l2) := by rw [eL]; exact (kv_split hKn).2.1
    have hKn2 : ((l1 ++ l2).map K).Nodup := List.Nodup.sublist (List.Sublist.map K (List.Sublist.append_left (List.sublist_cons_self ..) _)) hKn
    refine cg_V (hn := 1) (As := [.int (nI x)]) (rest := []) (wr := []) (q0 := 0) (ci := 0) hx hb hml hown hts (c_tb_drop l D cI cT cP a (mvI mv) qk qv qb qf qh qc (2 ^ (4 + j)) K V P N G C fl (nI mm) j mm x l1 l2 Fr bl hTA hTN hTH hKn) km_tb_60 ki_tb_drop ks_tb_drop kn_tb kc_tb_drop (by decide +kernel) rfl ⟨Nat.le_of_ble_eq_true rfl, Nat.le_of_ble_eq_true rfl⟩ hK hP hD hS hA [0, 1, 2, 3, 4, 5, 6] [] rfl (by decide) rfl (by decide) (by decide) rfl rfl hl.1 rfl (Nat.le_of_ble_eq_true rfl) d_tb_dropKey_24 ⟨Nat.zero_le _, Nat.zero_le _⟩ (fun v u H locs hpost hP hD hS => ?_)
    obtain ⟨G2, C2⟩ := u
    obtain ⟨e9, bl2, hTH2⟩ := hpost
    subst e9
    have hTH2 : TH (2 ^ (4 + j)) K G2 C2 (nI x) (l1 ++ l2) (x :: Fr) bl2 := hTH2
    refine W.eq (g2 := F0 m 27 ls []) rfl ?_
    have hP : va_P D cls (tx cI a (mvI mv) (nI (l1 ++ l2).length) qk qv qb qf qh qc (2 ^ (4 + j)) K V (upd P (hd_ 0 l2) (nI (ls_ 0 l1))) (upd N (ls_ 0 l1) (nI (hd_ 0 l2))) G2 C2 (nI x) (nI mm)) H := hP
    have hD : va_D A (tx cI a (mvI mv) (nI (l1 ++ l2).length) qk qv qb qf qh qc (2 ^ (4 + j)) K V (upd P (hd_ 0 l2) (nI (ls_ 0 l1))) (upd N (ls_ 0 l1) (nI (hd_ 0 l2))) G2 C2 (nI x) (nI mm)) := hD
    refine lv_lload_n hx hb d_tb_dropKey_27 rfl (lv_at hl 0 rfl) ?_
    exact cg_lret (u := (qk, qv, qb, qf, qh, qc, K, V, (upd P (hd_ 0 l2) (nI (ls_ 0 l1))), (upd N (ls_ 0 l1) (nI (hd_ 0 l2))), G2, C2, nI x, mm, l1 ++ l2)) hQ hx hb hr hlk hK hP hD hS (⟨by rw [hkL]; rfl, ⟨x :: Fr, bl2, ta_del hTA, q3, hTH2, hKn2, by rw [← hke]; exact hdel⟩⟩) d_tb_dropKey_28
set_option maxRecDepth 100000 in
set_option maxHeartbeats 4000000 in
/-- dropPair(k, v0) -/
theorem c_tb_dropPair (l : Launch) (D : va_G) (cI cT cP : ClassId) (a : Nat) (mv : Bool) (j : Nat) (L : List (Int32 × Int32)) (u0 : TB) (hL : TL j L u0) (k v0 : Int32) : Cg l y_tb_dropPair b_tb_dropPair 4 (some .boolean) 3 0 0 D (ty3 cI cT cP) [.ref a, .int k, .int v0] (tw cI a mv j u0) (fun (v : Option Value) (u : TB) => v = some (.int (zI (decide (lk k L = some v0)))) ∧ TL j (tk k v0 L) u) (fun u => tw cI a mv j u) := by
  obtain ⟨qk, qv, qb, qf, qh, qc, K, V, P, N, G, C, fl, mm, R⟩ := u0
  obtain ⟨Fr, bl, hTA, hTN, hTH, hKn, eL⟩ := hL
  have hTA : TA (2 ^ (4 + j)) j mm R Fr := hTA
  have hTN : TN P N R := hTN
  have hTH : TH (2 ^ (4 + j)) K G C fl R Fr bl := hTH
  have hKn : (R.map K).Nodup := hKn
  have eL : L = kv K V R := eL
  have hLl : L.length = R.length := by rw [eL]; exact List.length_map ..
  have hn : 2 ^ (4 + j) < 2 ^ 31 := (ta_len hTA).2.2
  have hRl : R.length < 2 ^ 31 := (ta_len hTA).2.1
  refine cg_enter rfl (Nat.le_of_ble_eq_true rfl) ?_
  intro p e s m below meth c args hx hb hr hlk hml hown hin hts A hA hK hP hD hS ls hl Q hQ
  have hl : lv_has ls 4 [(0, .ref a), (1, .int k), (2, .int v0)] := hl
  have hP : va_P D cls (tx cI a (mvI mv) (nI R.length) qk qv qb qf qh qc (2 ^ (4 + j)) K V P N G C fl (nI mm)) s.heap := hP
  have hD : va_D A (tx cI a (mvI mv) (nI R.length) qk qv qb qf qh qc (2 ^ (4 + j)) K V P N G C fl (nI mm)) := hD
  refine lv_aload_n hx hb d_tb_dropPair_0 rfl (lv_at hl 0 rfl) ?_
  refine lv_iload_n hx hb d_tb_dropPair_1 rfl (lv_at hl 1 rfl) ?_
  refine cg_V (hn := 1) (As := [.int k]) (rest := []) (wr := []) (q0 := 0) (ci := 0) hx hb hml hown hts (c_tb_slotOf l D cI cT cP a (mvI mv) qk qv qb qf qh qc (2 ^ (4 + j)) K V P N G C fl (nI mm) j mm R Fr bl hTA hTH hKn k) km_tb_34 ki_tb_slotOf ks_tb_slotOf kn_tb kc_tb_slotOf (by decide +kernel) rfl ⟨Nat.le_of_ble_eq_true rfl, Nat.le_of_ble_eq_true rfl⟩ hK hP hD hS hA [0, 1, 2, 3, 4, 5, 6] [] rfl (by decide) rfl (by decide) (by decide) rfl rfl hl.1 rfl (Nat.le_of_ble_eq_true rfl) d_tb_dropPair_2 ⟨Nat.zero_le _, Nat.zero_le _⟩ (fun v u H locs hpost hP hD hS => ?_)
  subst hpost
  refine W.eq (g2 := F0 m 5 ls [.int (nI (sl K k R))]) rfl ?_
  have hP : va_P D cls (tx cI a (mvI mv) (nI R.length) qk qv qb qf qh qc (2 ^ (4 + j)) K V P N G C fl (nI mm)) H := hP
  have hD : va_D A (tx cI a (mvI mv) (nI R.length) qk qv qb qf qh qc (2 ^ (4 + j)) K V P N G C fl (nI mm)) := hD
  rcases sl_cases K k R with ⟨e0, hno⟩ | ⟨hxR, hke⟩
  · rw [e0]
    have hkL : lk k L = none := by rw [eL]; exact kv_out hno
    refine lv_istore_n (lv' := [(3, .int (nI 0)), (0, .ref a), (1, .int k), (2, .int v0)]) hx hb d_tb_dropPair_5 rfl hl (by decide) rfl (fun ls hl => ?_)
    refine lv_iload_n hx hb d_tb_dropPair_6 rfl (lv_at hl 0 rfl) ?_
    refine lv_if_eq (tgt := 20) hx hb d_tb_dropPair_7 (by decide) (fun _ => ?_) (fun z9 => absurd rfl z9)
    refine lv_iconst (v := 0) hx hb d_tb_dropPair_20 (by decide) ?_
    exact cg_zret (u := (qk, qv, qb, qf, qh, qc, K, V, P, N, G, C, fl, mm, R)) hQ hx hb hr hlk hK hP hD hS rfl (⟨by rw [hkL]; rfl, by unfold tk; rw [hkL, if_neg (by simp)]; exact ⟨Fr, bl, hTA, hTN, hTH, hKn, eL⟩⟩) d_tb_dropPair_21
  · generalize sl K k R = x at *
    have hxn := ta_in hTA hxR
    have hkL : lk k L = some (V x) := by rw [eL, ← hke]; exact kv_at hxR hKn
    refine lv_istore_n (lv' := [(3, .int (nI x)), (0, .ref a), (1, .int k), (2, .int v0)]) hx hb d_tb_dropPair_5 rfl hl (by decide) rfl (fun ls hl => ?_)
    refine lv_iload_n hx hb d_tb_dropPair_6 rfl (lv_at hl 0 rfl) ?_
    refine lv_if_eq (tgt := 20) hx hb d_tb_dropPair_7 (by decide) (fun z9 => absurd z9 (nI_ne0 hxn.1 (by omega))) (fun _ => ?_)
    refine lv_aload_n hx hb d_tb_dropPair_10 rfl (lv_at hl 1 rfl) ?_
    refine va_get (D := D) (ci := 0) (v := .ref qv) (C := R_tb) (T := F_tb) (N := 10) hx hb hts i_tb hown hK hP 0 rfl rfl 3 (by decide) (hts _ kf_tb_19) (fun _ h9 => h9) rfl d_tb_dropPair_11 ?_
    refine lv_iload_n hx hb d_tb_dropPair_14 rfl (lv_at hl 0 rfl) ?_
    refine wa_ld (k := x) hx hb hK hP 2 0 rfl rfl hxn.2.2 hn d_tb_dropPair_15 ?_
    refine lv_iload_n hx hb d_tb_dropPair_16 rfl (lv_at hl 3 rfl) ?_
    refine lv_icmp_eq (tgt := 22) hx hb d_tb_dropPair_17 (by decide) (fun c1 => ?_) (fun c1 => ?_)
    · refine lv_aload_n hx hb d_tb_dropPair_22 rfl (lv_at hl 1 rfl) ?_
      refine lv_iload_n hx hb d_tb_dropPair_23 rfl (lv_at hl 0 rfl) ?_
      obtain ⟨l1, l2, eR⟩ := List.append_of_mem hxR
      subst eR
      obtain ⟨q1, q2, q3⟩ := tn_cut (ta_nd0 hTA) hTN
      have hdel : del (K x) L = kv K V (l1 ++ l2) := by rw [eL]; exact (kv_split hKn).2.1
      have hKn2 : ((l1 ++ l2).map K).Nodup := List.Nodup.sublist (List.Sublist.map K (List.Sublist.append_left (List.sublist_cons_self ..) _)) hKn
      refine cg_V (hn := 1) (As := [.int (nI x)]) (rest := []) (wr := []) (q0 := 0) (ci := 0) hx hb hml hown hts (c_tb_drop l D cI cT cP a (mvI mv) qk qv qb qf qh qc (2 ^ (4 + j)) K V P N G C fl (nI mm) j mm x l1 l2 Fr bl hTA hTN hTH hKn) km_tb_60 ki_tb_drop ks_tb_drop kn_tb kc_tb_drop (by decide +kernel) rfl ⟨Nat.le_of_ble_eq_true rfl, Nat.le_of_ble_eq_true rfl⟩ hK hP hD hS hA [0, 1, 2, 3, 4, 5, 6] [] rfl (by decide) rfl (by decide) (by decide) rfl rfl hl.1 rfl (Nat.le_of_ble_eq_true rfl) d_tb_dropPair_24 ⟨Nat.zero_le _, Nat.zero_le _⟩ (fun v u H locs hpost hP hD hS => ?_)
      obtain ⟨G2, C2⟩ := u
      obtain ⟨e9, bl2, hTH2⟩ := hpost
      subst e9
      have hTH2 : TH (2 ^ (4 + j)) K G2 C2 (nI x) (l1 ++ l2) (x :: Fr) bl2 := hTH2
      refine W.eq (g2 := F0 m 27 ls []) rfl ?_
      have hP : va_P D cls (tx cI a (mvI mv) (nI (l1 ++ l2).length) qk qv qb qf qh qc (2 ^ (4 + j)) K V (upd P (hd_ 0 l2) (nI (ls_ 0 l1))) (upd N (ls_ 0 l1) (nI (hd_ 0 l2))) G2 C2 (nI x) (nI mm)) H := hP
      have hD : va_D A (tx cI a (mvI mv) (nI (l1 ++ l2).length) qk qv qb qf qh qc (2 ^ (4 + j)) K V (upd P (hd_ 0 l2) (nI (ls_ 0 l1))) (upd N (ls_ 0 l1) (nI (hd_ 0 l2))) G2 C2 (nI x) (nI mm)) := hD
      refine lv_iconst (v := 1) hx hb d_tb_dropPair_27 (by decide) ?_
      exact cg_zret (u := (qk, qv, qb, qf, qh, qc, K, V, (upd P (hd_ 0 l2) (nI (ls_ 0 l1))), (upd N (ls_ 0 l1) (nI (hd_ 0 l2))), G2, C2, nI x, mm, l1 ++ l2)) hQ hx hb hr hlk hK hP hD hS rfl (⟨by rw [hkL, decide_eq_true (by rw [c1])]; rfl, by unfold tk; rw [hkL, if_pos (by rw [c1])]; exact ⟨x :: Fr, bl2, ta_del hTA, q3, hTH2, hKn2, by rw [← hke]; exact hdel⟩⟩) d_tb_dropPair_28
    · refine lv_iconst (v := 0) hx hb d_tb_dropPair_20 (by decide) ?_
      exact cg_zret (u := (qk, qv, qb, qf, qh, qc, K, V, P, N, G, C, fl, mm, R)) hQ hx hb hr hlk hK hP hD hS rfl (⟨by rw [hkL, decide_eq_false (fun z9 => c1 (Option.some.inj z9))]; rfl, by unfold tk; rw [hkL, if_neg (fun z9 => c1 (Option.some.inj z9))]; exact ⟨Fr, bl, hTA, hTN, hTH, hKn, eL⟩⟩) d_tb_dropPair_21
set_option maxRecDepth 100000 in
set_option maxHeartbeats 4000000 in
/-- dropAll() -/
theorem c_tb_dropAll (l : Launch) (D : va_G) (cI cT cP : ClassId) (a : Nat) (mv : Bool) (j : Nat) (L : List (Int32 × Int32)) (u0 : TB) (hL : TL j L u0) : Cg l y_tb_dropAll b_tb_dropAll 2 (some .int) 1 0 0 D (ty3 cI cT cP) [.ref a] (tw cI a mv j u0) (fun (v : Option Value) (u : TB) => v = some (.int (nI L.length)) ∧ TL j [] u) (fun u => tw cI a mv j u) := by
  obtain ⟨qk, qv, qb, qf, qh, qc, K, V, P, N, G, C, fl, mm, R⟩ := u0
  obtain ⟨Fr, bl, hTA, hTN, hTH, hKn, eL⟩ := hL
  have hTA : TA (2 ^ (4 + j)) j mm R Fr := hTA
  have hTN : TN P N R := hTN
  have hTH : TH (2 ^ (4 + j)) K G C fl R Fr bl := hTH
  have hKn : (R.map K).Nodup := hKn
  have eL : L = kv K V R := eL
  have hLl : L.length = R.length := by rw [eL]; exact List.length_map ..
  have hn : 2 ^ (4 + j) < 2 ^ 31 := (ta_len hTA).2.2
  have hRl : R.length < 2 ^ 31 := (ta_len hTA).2.1
  refine cg_enter rfl (Nat.le_of_ble_eq_true rfl) ?_
  intro p e s m below meth c args hx hb hr hlk hml hown hin hts A hA hK hP hD hS ls hl Q hQ
  have hl : lv_has ls 2 [(0, .ref a)] := hl
  have hP : va_P D cls (tx cI a (mvI mv) (nI R.length) qk qv qb qf qh qc (2 ^ (4 + j)) K V P N G C fl (nI mm)) s.heap := hP
  have hD : va_D A (tx cI a (mvI mv) (nI R.length) qk qv qb qf qh qc (2 ^ (4 + j)) K V P N G C fl (nI mm)) := hD
  refine lv_aload_n hx hb d_tb_dropAll_0 rfl (lv_at hl 0 rfl) ?_
  refine va_get (D := D) (ci := 0) (v := .int (nI R.length)) (C := R_tb) (T := F_tb) (N := 10) hx hb hts i_tb hown hK hP 0 rfl rfl 1 (by decide) (hts _ kf_tb_52) (fun _ h9 => h9) rfl d_tb_dropAll_1 ?_
  refine lv_istore_n (lv' := [(1, .int (nI R.length)), (0, .ref a)]) hx hb d_tb_dropAll_4 rfl hl (by decide) rfl (fun ls hl => ?_)
  refine lv_aload_n hx hb d_tb_dropAll_5 rfl (lv_at hl 1 rfl) ?_
  refine va_get (D := D) (ci := 0) (v := .ref qh) (C := R_tb) (T := F_tb) (N := 10) hx hb hts i_tb hown hK hP 0 rfl rfl 6 (by decide) (hts _ kf_tb_28) (fun _ h9 => h9) rfl d_tb_dropAll_6 ?_
  refine lv_iconst (v := 0) hx hb d_tb_dropAll_9 (by decide) ?_
  have hP : va_P D cls ([(a, .inr (0, [.int (mvI mv), .int (nI R.length), .ref qk, .ref qv, .ref qb, .ref qf, .ref qh, .ref qc, .int fl, .int (nI mm)])), (qk, .inl (cI, (2 ^ (4 + j)), .inl K)), (qv, .inl (cI, (2 ^ (4 + j)), .inl V)), (qb, .inl (cI, (2 ^ (4 + j)), .inl P)), (qf, .inl (cI, (2 ^ (4 + j)), .inl N)), (qh, .inl (cI, (2 ^ (4 + j)), .inl G)), (qc, .inl (cI, (2 ^ (4 + j)), .inl C))]) s.heap := hP
  have hD : va_D A ([(a, .inr (0, [.int (mvI mv), .int (nI R.length), .ref qk, .ref qv, .ref qb, .ref qf, .ref qh, .ref qc, .int fl, .int (nI mm)])), (qk, .inl (cI, (2 ^ (4 + j)), .inl K)), (qv, .inl (cI, (2 ^ (4 + j)), .inl V)), (qb, .inl (cI, (2 ^ (4 + j)), .inl P)), (qf, .inl (cI, (2 ^ (4 + j)), .inl N)), (qh, .inl (cI, (2 ^ (4 + j)), .inl G)), (qc, .inl (cI, (2 ^ (4 + j)), .inl C))]) := hD
  refine cg_S (hn := 2) (As := [.ref qh, .int 0]) (rest := []) (wr := [(a, .inr (0, [.int (mvI mv), .int (nI R.length), .ref qk, .ref qv, .ref qb, .ref qf, .ref qh, .ref qc, .int fl, .int (nI mm)])), (qk, .inl (cI, (2 ^ (4 + j)), .inl K)), (qv, .inl (cI, (2 ^ (4 + j)), .inl V)), (qb, .inl (cI, (2 ^ (4 + j)), .inl P)), (qf, .inl (cI, (2 ^ (4 + j)), .inl N)), (qc, .inl (cI, (2 ^ (4 + j)), .inl C))]) hx hb hml hown hts (c_ja_fill l D cI cT cP qh (2 ^ (4 + j)) G 0 hn) km_tb_69 kt_ja_fill kn_ja kc_ja_fill (by decide +kernel) rfl ⟨Nat.le_of_ble_eq_true rfl, Nat.le_of_ble_eq_true rfl⟩ hK hP hD hS hA [5] [0, 1, 2, 3, 4, 6] rfl (by decide) rfl (by decide) (by decide) hl.1 rfl (Nat.le_of_ble_eq_true rfl) d_tb_dropAll_10 ⟨Nat.zero_le _, Nat.zero_le _⟩ (fun v G2 H locs hpost hP hD hS => ?_)
  obtain ⟨e9, hG2⟩ := hpost
  subst e9
  refine W.eq (g2 := F0 m 13 ls []) rfl ?_
  have hP : va_P D cls ([(a, .inr (0, [.int (mvI mv), .int (nI R.length), .ref qk, .ref qv, .ref qb, .ref qf, .ref qh, .ref qc, .int fl, .int (nI mm)])), (qk, .inl (cI, (2 ^ (4 + j)), .inl K)), (qv, .inl (cI, (2 ^ (4 + j)), .inl V)), (qb, .inl (cI, (2 ^ (4 + j)), .inl P)), (qf, .inl (cI, (2 ^ (4 + j)), .inl N)), (qc, .inl (cI, (2 ^ (4 + j)), .inl C)), (qh, .inl (cI, (2 ^ (4 + j)), .inl G2))]) H := hP
  have hD : va_D A ([(a, .inr (0, [.int (mvI mv), .int (nI R.length), .ref qk, .ref qv, .ref qb, .ref qf, .ref qh, .ref qc, .int fl, .int (nI mm)])), (qk, .inl (cI, (2 ^ (4 + j)), .inl K)), (qv, .inl (cI, (2 ^ (4 + j)), .inl V)), (qb, .inl (cI, (2 ^ (4 + j)), .inl P)), (qf, .inl (cI, (2 ^ (4 + j)), .inl N)), (qc, .inl (cI, (2 ^ (4 + j)), .inl C)), (qh, .inl (cI, (2 ^ (4 + j)), .inl G2))]) := hD
  have hP : va_P D cls ([(a, .inr (0, [.int (mvI mv), .int (nI R.length), .ref qk, .ref qv, .ref qb, .ref qf, .ref qh, .ref qc, .int fl, .int (nI mm)])), (qk, .inl (cI, (2 ^ (4 + j)), .inl K)), (qv, .inl (cI, (2 ^ (4 + j)), .inl V)), (qb, .inl (cI, (2 ^ (4 + j)), .inl P)), (qf, .inl (cI, (2 ^ (4 + j)), .inl N)), (qh, .inl (cI, (2 ^ (4 + j)), .inl G2)), (qc, .inl (cI, (2 ^ (4 + j)), .inl C))]) H := hP.sub [0, 1, 2, 3, 4, 6, 5] rfl
  have hD : va_D A ([(a, .inr (0, [.int (mvI mv), .int (nI R.length), .ref qk, .ref qv, .ref qb, .ref qf, .ref qh, .ref qc, .int fl, .int (nI mm)])), (qk, .inl (cI, (2 ^ (4 + j)), .inl K)), (qv, .inl (cI, (2 ^ (4 + j)), .inl V)), (qb, .inl (cI, (2 ^ (4 + j)), .inl P)), (qf, .inl (cI, (2 ^ (4 + j)), .inl N)), (qh, .inl (cI, (2 ^ (4 + j)), .inl G2)), (qc, .inl (cI, (2 ^ (4 + j)), .inl C))]) := hD.sub [0, 1, 2, 3, 4, 6, 5] (by decide) rfl
  have hP : va_P D cls (tx cI a (mvI mv) (nI R.length) qk qv qb qf qh qc (2 ^ (4 + j)) K V P N G2 C fl (nI mm)) H := hP
  have hD : va_D A (tx cI a (mvI mv) (nI R.length) qk qv qb qf qh qc (2 ^ (4 + j)) K V P N G2 C fl (nI mm)) := hD
  refine lv_aload_n hx hb d_tb_dropAll_13 rfl (lv_at hl 1 rfl) ?_
  refine va_get (D := D) (ci := 0) (v := .ref qb) (C := R_tb) (T := F_tb) (N := 10) hx hb hts i_tb hown hK hP 0 rfl rfl 4 (by decide) (hts _ kf_tb_22) (fun _ h9 => h9) rfl d_tb_dropAll_14 ?_
  refine lv_iconst (v := 0) hx hb d_tb_dropAll_17 (by decide) ?_
  refine lv_iconst (v := 0) hx hb d_tb_dropAll_18 (by decide) ?_
  refine wa_st (k := 0) (x := 0) hx hb hK hP hD hS 3 0 rfl rfl (by have := ta_n hTA; omega) hn d_tb_dropAll_19 (fun H locs hP hD hS => ?_)
  have hP : va_P D cls (tx cI a (mvI mv) (nI R.length) qk qv qb qf qh qc (2 ^ (4 + j)) K V (upd P 0 0) N G2 C fl (nI mm)) H := hP
  have hD : va_D A (tx cI a (mvI mv) (nI R.length) qk qv qb qf qh qc (2 ^ (4 + j)) K V (upd P 0 0) N G2 C fl (nI mm)) := hD
  refine lv_aload_n hx hb d_tb_dropAll_20 rfl (lv_at hl 1 rfl) ?_
  refine va_get (D := D) (ci := 0) (v := .ref qf) (C := R_tb) (T := F_tb) (N := 10) hx hb hts i_tb hown hK hP 0 rfl rfl 5 (by decide) (hts _ kf_tb_25) (fun _ h9 => h9) rfl d_tb_dropAll_21 ?_
  refine lv_iconst (v := 0) hx hb d_tb_dropAll_24 (by decide) ?_
  refine lv_iconst (v := 0) hx hb d_tb_dropAll_25 (by decide) ?_
  refine wa_st (k := 0) (x := 0) hx hb hK hP hD hS 4 0 rfl rfl (by have := ta_n hTA; omega) hn d_tb_dropAll_26 (fun H locs hP hD hS => ?_)
  have hP : va_P D cls (tx cI a (mvI mv) (nI R.length) qk qv qb qf qh qc (2 ^ (4 + j)) K V (upd P 0 0) (upd N 0 0) G2 C fl (nI mm)) H := hP
  have hD : va_D A (tx cI a (mvI mv) (nI R.length) qk qv qb qf qh qc (2 ^ (4 + j)) K V (upd P 0 0) (upd N 0 0) G2 C fl (nI mm)) := hD
  refine lv_aload_n hx hb d_tb_dropAll_27 rfl (lv_at hl 1 rfl) ?_
  refine lv_iconst (v := 0) hx hb d_tb_dropAll_28 (by decide) ?_
  refine va_put (D := D) (ci := 0) (v := .int 0) (ty := .int) (C := R_tb) (T := F_tb) (N := 10) hx hb hts i_tb t_tb t_tb_ok n_tb hown hK hP hD hS 0 rfl rfl 8 (by decide) (hts _ kf_tb_75) (fun _ h9 => h9) rfl (by decide +kernel) rfl rfl (Nat.le_of_ble_eq_true rfl) d_tb_dropAll_29 (fun H locs hP hD hS => ?_)
  have hP : va_P D cls (tx cI a (mvI mv) (nI R.length) qk qv qb qf qh qc (2 ^ (4 + j)) K V (upd P 0 0) (upd N 0 0) G2 C 0 (nI mm)) H := hP
  have hD : va_D A (tx cI a (mvI mv) (nI R.length) qk qv qb qf qh qc (2 ^ (4 + j)) K V (upd P 0 0) (upd N 0 0) G2 C 0 (nI mm)) := hD
  refine lv_aload_n hx hb d_tb_dropAll_32 rfl (lv_at hl 1 rfl) ?_
  refine lv_iconst (v := 0) hx hb d_tb_dropAll_33 (by decide) ?_
  refine va_put (D := D) (ci := 0) (v := .int 0) (ty := .int) (C := R_tb) (T := F_tb) (N := 10) hx hb hts i_tb t_tb t_tb_ok n_tb hown hK hP hD hS 0 rfl rfl 9 (by decide) (hts _ kf_tb_78) (fun _ h9 => h9) rfl (by decide +kernel) rfl rfl (Nat.le_of_ble_eq_true rfl) d_tb_dropAll_34 (fun H locs hP hD hS => ?_)
  have hP : va_P D cls (tx cI a (mvI mv) (nI R.length) qk qv qb qf qh qc (2 ^ (4 + j)) K V (upd P 0 0) (upd N 0 0) G2 C 0 0) H := hP
  have hD : va_D A (tx cI a (mvI mv) (nI R.length) qk qv qb qf qh qc (2 ^ (4 + j)) K V (upd P 0 0) (upd N 0 0) G2 C 0 0) := hD
  refine lv_aload_n hx hb d_tb_dropAll_37 rfl (lv_at hl 1 rfl) ?_
  refine lv_iconst (v := 0) hx hb d_tb_dropAll_38 (by decide) ?_
  refine va_put (D := D) (ci := 0) (v := .int 0) (ty := .int) (C := R_tb) (T := F_tb) (N := 10) hx hb hts i_tb t_tb t_tb_ok n_tb hown hK hP hD hS 0 rfl rfl 1 (by decide) (hts _ kf_tb_52) (fun _ h9 => h9) rfl (by decide +kernel) rfl rfl (Nat.le_of_ble_eq_true rfl) d_tb_dropAll_39 (fun H locs hP hD hS => ?_)
  have hP : va_P D cls (tx cI a (mvI mv) 0 qk qv qb qf qh qc (2 ^ (4 + j)) K V (upd P 0 0) (upd N 0 0) G2 C 0 0) H := hP
  have hD : va_D A (tx cI a (mvI mv) 0 qk qv qb qf qh qc (2 ^ (4 + j)) K V (upd P 0 0) (upd N 0 0) G2 C 0 0) := hD
  refine lv_iload_n hx hb d_tb_dropAll_42 rfl (lv_at hl 0 rfl) ?_
  exact cg_iret (u := (qk, qv, qb, qf, qh, qc, K, V, upd P 0 0, upd N 0 0, G2, C, 0, 0, [])) hQ hx hb hr hlk hK hP hD hS (⟨by rw [hLl], [], fun _ => [], ⟨hTA.1, by show 0 < 2 ^ (4 + j); have := ta_n hTA; omega, by simp, fun x => by simp; omega, rfl⟩, tn_empty, ⟨rfl, fun h hh => ⟨hG2 h hh, List.Perm.refl _⟩⟩, by simp, rfl⟩) d_tb_dropAll_43
