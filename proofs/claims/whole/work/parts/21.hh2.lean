-- HashHall (2): printed by wip/whole/gen/hh2.py
theorem zI_nar (b : Bool) : narrow .boolean (.int (zI b)) = .int (zI b) := by cases b <;> rfl
/-- the entry at a place -/
def at_ (q : Int32) (L : List (Int32 × Int32)) : Option (Int32 × Int32) := if q < 0 then none else L[q.toNatClampNeg]?
def eyo (w : Int32) : Option (Int32 × Int32) → Int64
  | none => 1099511627776
  | some e => if w = 0 then e.1.toInt64 else e.2.toInt64
theorem eyo_k {w : Int32} {e : Int32 × Int32} (h : w = 0) : eyo w (some e) = e.1.toInt64 := if_pos h
theorem eyo_v {w : Int32} {e : Int32 × Int32} (h : ¬ w = 0) : eyo w (some e) = e.2.toInt64 := if_neg h
def ey (km : Nat) (w q : Int32) (L : List (Int32 × Int32)) : Int64 := if km = 0 ∨ ¬ (w = 0 ∨ w = 1) then 1099511627777 else eyo w (at_ q L)
theorem sa_at {q : Int32} {K V : Nat → Int32} {R : List Nat} {L : List (Int32 × Int32)} (hR : ∀ x, x ∈ R → 1 ≤ x) (e : L = kv K V R) : (sa q R = 0 ∧ at_ q L = none) ∨ (sa q R ∈ R ∧ at_ q L = some (K (sa q R), V (sa q R))) := by
  subst e
  unfold sa at_
  by_cases h : q < 0
  · rw [if_pos h, if_pos h]
    exact Or.inl ⟨rfl, rfl⟩
  · rw [if_neg h, if_neg h]
    by_cases h2 : q.toNatClampNeg < R.length
    · refine Or.inr ⟨?_, ?_⟩
      · rw [List.getD_eq_getElem?_getD, List.getElem?_eq_getElem h2]
        exact List.getElem_mem h2
      · rw [List.getElem?_map, List.getD_eq_getElem?_getD, List.getElem?_eq_getElem h2]
        rfl
    · refine Or.inl ⟨?_, ?_⟩
      · rw [List.getD_eq_getElem?_getD, List.getElem?_eq_none (by omega)]
        rfl
      · rw [List.getElem?_map, List.getElem?_eq_none (by omega)]
        rfl
def swa (d r : Int32) (L : List (Int32 × Int32)) : Int32 := if 1 ≤ d then nI (L.length - (sw d r L).length) else -1
def swl (d r : Int32) (L : List (Int32 × Int32)) : List (Int32 × Int32) := if 1 ≤ d then sw d r L else L
set_option maxRecDepth 100000 in
set_option maxHeartbeats 4000000 in
/-- has -/
theorem c_hh_has (l : Launch) (D : va_G) (cI cT cP : ClassId) (h r : Nat) (ft : Nat → Option Nat) (km : Nat) (hkm : km < 3) (a : Nat) (hft : ft km = some a) (mv : Bool) (j : Nat) (L : List (Int32 × Int32)) (u0 : TB) (hL : TL j L u0) (w0 x0 : Int32) : Cg l y_hh_has b_hh_has 5 (some .boolean) 3 0 0 D (ty3 cI cT cP) [.ref h, .int (nI km), .int w0, .int x0] ([(h, .inr (1, [.ref r])), (r, .inl (cT, 3, .inr (.inr (.inr (.inr ft)))))] ++ (tw cI a mv j u0)) (fun (v : Option Value) (u : Unit) => v = some (.int (zI (hs w0 x0 L)))) (fun u => [(h, .inr (1, [.ref r])), (r, .inl (cT, 3, .inr (.inr (.inr (.inr ft)))))] ++ (tw cI a mv j u0)) := by
  refine cg_enter rfl (Nat.le_of_ble_eq_true rfl) ?_
  intro p e s m below meth c args hx hb hr hlk hml hown hin hts A hA hK hP hD hS ls hl Q hQ
  have hl : lv_has ls 5 [(0, .ref h), (1, .int (nI km)), (2, .int w0), (3, .int x0)] := hl
  have hP : va_P D cls ([(h, .inr (1, [.ref r])), (r, .inl (cT, 3, .inr (.inr (.inr (.inr ft)))))] ++ (tw cI a mv j u0)) s.heap := hP
  have hD : va_D A ([(h, .inr (1, [.ref r])), (r, .inl (cT, 3, .inr (.inr (.inr (.inr ft)))))] ++ (tw cI a mv j u0)) := hD
  refine lv_aload_n hx hb d_hh_has_0 rfl (lv_at hl 0 rfl) ?_
  refine lv_iload_n hx hb d_hh_has_1 rfl (lv_at hl 1 rfl) ?_
  refine cg_V (hn := 1) (As := [.int (nI km)]) (rest := []) (wr := tw cI a mv j u0) (q0 := 0) (ci := 1) hx hb hml hown hts (c_hh_tableOf l D cI cT cP h r ft km hkm a hft) km_hh_18 ki_hh_tableOf ks_hh_tableOf kn_hh kc_hh_tableOf (by decide +kernel) rfl ⟨Nat.le_of_ble_eq_true rfl, Nat.le_of_ble_eq_true rfl⟩ hK hP hD hS hA [0, 1] [2, 3, 4, 5, 6, 7, 8] rfl (by decide) rfl (by decide) (by decide) rfl rfl hl.1 rfl (Nat.le_of_ble_eq_true rfl) d_hh_has_2 ⟨Nat.zero_le _, Nat.zero_le _⟩ (fun v u H locs hpost hP hD hS => ?_)
  subst hpost
  refine W.eq (g2 := F0 m 5 ls [.ref a]) rfl ?_
  have hP : va_P D cls ((tw cI a mv j u0) ++ [(h, .inr (1, [.ref r])), (r, .inl (cT, 3, .inr (.inr (.inr (.inr ft)))))]) H := hP
  have hD : va_D A ((tw cI a mv j u0) ++ [(h, .inr (1, [.ref r])), (r, .inl (cT, 3, .inr (.inr (.inr (.inr ft)))))]) := hD
  have hP : va_P D cls ([(h, .inr (1, [.ref r])), (r, .inl (cT, 3, .inr (.inr (.inr (.inr ft)))))] ++ (tw cI a mv j u0)) H := hP.sub [7, 8, 0, 1, 2, 3, 4, 5, 6] rfl
  have hD : va_D A ([(h, .inr (1, [.ref r])), (r, .inl (cT, 3, .inr (.inr (.inr (.inr ft)))))] ++ (tw cI a mv j u0)) := hD.sub [7, 8, 0, 1, 2, 3, 4, 5, 6] (by decide) rfl
  refine lv_astore (lv' := [(4, .ref a), (0, .ref h), (1, .int (nI km)), (2, .int w0), (3, .int x0)]) hx hb d_hh_has_5 hl (by decide) rfl (fun ls hl => ?_)
  refine lv_aload hx hb d_hh_has_7 (lv_at hl 0 rfl) ?_
  refine lv_ifnonnull (tgt := 14) hx hb d_hh_has_9 (by decide) ?_
  refine lv_iload_n hx hb d_hh_has_14 rfl (lv_at hl 3 rfl) ?_
  by_cases h0 : w0 = 0
  · refine lv_if_ne (tgt := 25) hx hb d_hh_has_15 (by decide) (fun z9 => absurd h0 z9) (fun _ => ?_)
    refine lv_aload hx hb d_hh_has_18 (lv_at hl 0 rfl) ?_
    refine lv_iload_n hx hb d_hh_has_20 rfl (lv_at hl 4 rfl) ?_
    refine cg_V (hn := 1) (As := [.int x0]) (rest := []) (wr := [(h, .inr (1, [.ref r])), (r, .inl (cT, 3, .inr (.inr (.inr (.inr ft)))))]) (q0 := 0) (ci := 0) hx hb hml hown hts (c_tb_holdsKey l D cI cT cP a mv j L u0 hL x0) km_hh_44 ki_tb_holdsKey ks_tb_holdsKey kn_tb kc_tb_holdsKey (by decide +kernel) rfl ⟨Nat.le_of_ble_eq_true rfl, Nat.le_of_ble_eq_true rfl⟩ hK hP hD hS hA [2, 3, 4, 5, 6, 7, 8] [0, 1] rfl (by decide) rfl (by decide) (by decide) rfl rfl hl.1 rfl (Nat.le_of_ble_eq_true rfl) d_hh_has_21 ⟨Nat.zero_le _, Nat.zero_le _⟩ (fun v u H locs hpost hP hD hS => ?_)
    subst hpost
    refine W.eq (g2 := F0 m 24 ls [.int (zI (lk x0 L).isSome)]) rfl ?_
    have hP : va_P D cls ([(h, .inr (1, [.ref r])), (r, .inl (cT, 3, .inr (.inr (.inr (.inr ft)))))] ++ (tw cI a mv j u0)) H := hP
    have hD : va_D A ([(h, .inr (1, [.ref r])), (r, .inl (cT, 3, .inr (.inr (.inr (.inr ft)))))] ++ (tw cI a mv j u0)) := hD
    exact cg_zret (u := ()) hQ hx hb hr hlk hK hP hD hS (zI_nar _) (by unfold hs; rw [if_pos h0]) d_hh_has_24
  · refine lv_if_ne (tgt := 25) hx hb d_hh_has_15 (by decide) (fun _ => ?_) (fun z9 => absurd z9 h0)
    refine lv_iload_n hx hb d_hh_has_25 rfl (lv_at hl 3 rfl) ?_
    refine lv_iconst (v := 1) hx hb d_hh_has_26 (by decide) ?_
    by_cases h1 : w0 = 1
    · refine lv_icmp_ne (tgt := 43) hx hb d_hh_has_27 (by decide) (fun z9 => absurd h1 z9) (fun _ => ?_)
      refine lv_aload hx hb d_hh_has_30 (lv_at hl 0 rfl) ?_
      refine lv_iload_n hx hb d_hh_has_32 rfl (lv_at hl 4 rfl) ?_
      refine cg_V (hn := 1) (As := [.int x0]) (rest := []) (wr := [(h, .inr (1, [.ref r])), (r, .inl (cT, 3, .inr (.inr (.inr (.inr ft)))))]) (q0 := 0) (ci := 0) hx hb hml hown hts (c_tb_holdsValue l D cI cT cP a mv j L u0 hL x0) km_hh_48 ki_tb_holdsValue ks_tb_holdsValue kn_tb kc_tb_holdsValue (by decide +kernel) rfl ⟨Nat.le_of_ble_eq_true rfl, Nat.le_of_ble_eq_true rfl⟩ hK hP hD hS hA [2, 3, 4, 5, 6, 7, 8] [0, 1] rfl (by decide) rfl (by decide) (by decide) rfl rfl hl.1 rfl (Nat.le_of_ble_eq_true rfl) d_hh_has_33 ⟨Nat.zero_le _, Nat.zero_le _⟩ (fun v u H locs hpost hP hD hS => ?_)
      subst hpost
      refine W.eq (g2 := F0 m 36 ls [.int (zI (hvl x0 L))]) rfl ?_
      have hP : va_P D cls ([(h, .inr (1, [.ref r])), (r, .inl (cT, 3, .inr (.inr (.inr (.inr ft)))))] ++ (tw cI a mv j u0)) H := hP
      have hD : va_D A ([(h, .inr (1, [.ref r])), (r, .inl (cT, 3, .inr (.inr (.inr (.inr ft)))))] ++ (tw cI a mv j u0)) := hD
      generalize hbb : hvl x0 L = bb
      cases bb with
      | false =>
        refine lv_if_eq (tgt := 43) hx hb d_hh_has_36 (by decide) (fun _ => ?_) (fun z9 => absurd rfl z9)
        refine lv_iconst (v := 0) hx hb d_hh_has_43 (by decide) ?_
        exact cg_zret (u := ()) hQ hx hb hr hlk hK hP hD hS rfl (by unfold hs; rw [if_neg h0, if_pos h1, hbb]; rfl) d_hh_has_44
      | true =>
        refine lv_if_eq (tgt := 43) hx hb d_hh_has_36 (by decide) (fun z9 => absurd z9 (by decide)) (fun _ => ?_)
        refine lv_iconst (v := 1) hx hb d_hh_has_39 (by decide) ?_
        refine lv_goto (tgt := 44) hx hb d_hh_has_40 (by decide) ?_
        exact cg_zret (u := ()) hQ hx hb hr hlk hK hP hD hS rfl (by unfold hs; rw [if_neg h0, if_pos h1, hbb]; rfl) d_hh_has_44
    · refine lv_icmp_ne (tgt := 43) hx hb d_hh_has_27 (by decide) (fun _ => ?_) (fun z9 => absurd z9 h1)
      refine lv_iconst (v := 0) hx hb d_hh_has_43 (by decide) ?_
      exact cg_zret (u := ()) hQ hx hb hr hlk hK hP hD hS rfl (by unfold hs; rw [if_neg h0, if_neg h1]; rfl) d_hh_has_44
set_option maxRecDepth 100000 in
set_option maxHeartbeats 4000000 in
theorem c_hh_has_x (l : Launch) (D : va_G) (cI cT cP : ClassId) (h r : Nat) (q : Int32) (hq : bad q) (w0 x0 : Int32) : Cg l y_hh_has b_hh_has 5 (some .boolean) 3 0 0 D (ty3 cI cT cP) [.ref h, .int q, .int w0, .int x0] ([(h, .inr (1, [.ref r]))]) (fun (v : Option Value) (u : Unit) => v = some (.int 0)) (fun u => [(h, .inr (1, [.ref r]))]) := by
  refine cg_enter rfl (Nat.le_of_ble_eq_true rfl) ?_
  intro p e s m below meth c args hx hb hr hlk hml hown hin hts A hA hK hP hD hS ls hl Q hQ
  have hl : lv_has ls 5 [(0, .ref h), (1, .int q), (2, .int w0), (3, .int x0)] := hl
  have hP : va_P D cls ([(h, .inr (1, [.ref r]))]) s.heap := hP
  have hD : va_D A ([(h, .inr (1, [.ref r]))]) := hD
  refine lv_aload_n hx hb d_hh_has_0 rfl (lv_at hl 0 rfl) ?_
  refine lv_iload_n hx hb d_hh_has_1 rfl (lv_at hl 1 rfl) ?_
  refine cg_V (hn := 1) (As := [.int q]) (rest := []) (wr := []) (q0 := 0) (ci := 1) hx hb hml hown hts (c_hh_tableOf_x l D cI cT cP h r q hq) km_hh_18 ki_hh_tableOf ks_hh_tableOf kn_hh kc_hh_tableOf (by decide +kernel) rfl ⟨Nat.le_of_ble_eq_true rfl, Nat.le_of_ble_eq_true rfl⟩ hK hP hD hS hA [0] [] rfl (by decide) rfl (by decide) (by decide) rfl rfl hl.1 rfl (Nat.le_of_ble_eq_true rfl) d_hh_has_2 ⟨Nat.zero_le _, Nat.zero_le _⟩ (fun v u H locs hpost hP hD hS => ?_)
  subst hpost
  refine W.eq (g2 := F0 m 5 ls [.null]) rfl ?_
  have hP : va_P D cls ([(h, .inr (1, [.ref r]))]) H := hP
  have hD : va_D A ([(h, .inr (1, [.ref r]))]) := hD
  refine lv_astoreN (lv' := [(4, .null), (0, .ref h), (1, .int q), (2, .int w0), (3, .int x0)]) hx hb d_hh_has_5 hl (by decide) rfl (fun ls hl => ?_)
  refine lv_aloadN hx hb d_hh_has_7 (lv_at hl 0 rfl) ?_
  refine lv_ifnonnullN hx hb d_hh_has_9 ?_
  refine lv_iconst (v := 0) hx hb d_hh_has_12 (by decide) ?_
  exact cg_zret (u := ()) hQ hx hb hr hlk hK hP hD hS rfl rfl d_hh_has_13
set_option maxRecDepth 100000 in
set_option maxHeartbeats 4000000 in
/-- size -/
theorem c_hh_size (l : Launch) (D : va_G) (cI cT cP : ClassId) (h r : Nat) (ft : Nat → Option Nat) (km : Nat) (hkm : km < 3) (a : Nat) (hft : ft km = some a) (mv : Bool) (j : Nat) (L : List (Int32 × Int32)) (u0 : TB) (hL : TL j L u0) : Cg l y_hh_size b_hh_size 3 (some .int) 1 0 0 D (ty3 cI cT cP) [.ref h, .int (nI km)] ([(h, .inr (1, [.ref r])), (r, .inl (cT, 3, .inr (.inr (.inr (.inr ft)))))] ++ (tw cI a mv j u0)) (fun (v : Option Value) (u : Unit) => v = some (.int (nI L.length))) (fun u => [(h, .inr (1, [.ref r])), (r, .inl (cT, 3, .inr (.inr (.inr (.inr ft)))))] ++ (tw cI a mv j u0)) := by
  obtain ⟨qk, qv, qb, qf, qh, qc, K, V, P, N, G, C, fl, mm, R⟩ := u0
  obtain ⟨Fr, bl, hTA, hTN, hTH, hKn, eL⟩ := hL
  have hTA : TA (2 ^ (4 + j)) j mm R Fr := hTA
  have hTN : TN P N R := hTN
  have hTH : TH (2 ^ (4 + j)) K G C fl R Fr bl := hTH
  have hKn : (R.map K).Nodup := hKn
  have eL : L = kv K V R := eL
  have hLl : L.length = R.length := by rw [eL]; exact List.length_map ..
  have hn : 2 ^ (4 + j) < 2 ^ 31 := (ta_len hTA).2.2
  have hRl : R.length < 2 ^ 31 := (ta_len hTA).2.1
  refine cg_enter rfl (Nat.le_of_ble_eq_true rfl) ?_
  intro p e s m below meth c args hx hb hr hlk hml hown hin hts A hA hK hP hD hS ls hl Q hQ
  have hl : lv_has ls 3 [(0, .ref h), (1, .int (nI km))] := hl
  have hP : va_P D cls ([(h, .inr (1, [.ref r])), (r, .inl (cT, 3, .inr (.inr (.inr (.inr ft)))))] ++ (tx cI a (mvI mv) (nI R.length) qk qv qb qf qh qc (2 ^ (4 + j)) K V P N G C fl (nI mm))) s.heap := hP
  have hD : va_D A ([(h, .inr (1, [.ref r])), (r, .inl (cT, 3, .inr (.inr (.inr (.inr ft)))))] ++ (tx cI a (mvI mv) (nI R.length) qk qv qb qf qh qc (2 ^ (4 + j)) K V P N G C fl (nI mm))) := hD
  refine lv_aload_n hx hb d_hh_size_0 rfl (lv_at hl 0 rfl) ?_
  refine lv_iload_n hx hb d_hh_size_1 rfl (lv_at hl 1 rfl) ?_
  refine cg_V (hn := 1) (As := [.int (nI km)]) (rest := []) (wr := tx cI a (mvI mv) (nI R.length) qk qv qb qf qh qc (2 ^ (4 + j)) K V P N G C fl (nI mm)) (q0 := 0) (ci := 1) hx hb hml hown hts (c_hh_tableOf l D cI cT cP h r ft km hkm a hft) km_hh_18 ki_hh_tableOf ks_hh_tableOf kn_hh kc_hh_tableOf (by decide +kernel) rfl ⟨Nat.le_of_ble_eq_true rfl, Nat.le_of_ble_eq_true rfl⟩ hK hP hD hS hA [0, 1] [2, 3, 4, 5, 6, 7, 8] rfl (by decide) rfl (by decide) (by decide) rfl rfl hl.1 rfl (Nat.le_of_ble_eq_true rfl) d_hh_size_2 ⟨Nat.zero_le _, Nat.zero_le _⟩ (fun v u H locs hpost hP hD hS => ?_)
  subst hpost
  refine W.eq (g2 := F0 m 5 ls [.ref a]) rfl ?_
  have hP : va_P D cls ((tx cI a (mvI mv) (nI R.length) qk qv qb qf qh qc (2 ^ (4 + j)) K V P N G C fl (nI mm)) ++ [(h, .inr (1, [.ref r])), (r, .inl (cT, 3, .inr (.inr (.inr (.inr ft)))))]) H := hP
  have hD : va_D A ((tx cI a (mvI mv) (nI R.length) qk qv qb qf qh qc (2 ^ (4 + j)) K V P N G C fl (nI mm)) ++ [(h, .inr (1, [.ref r])), (r, .inl (cT, 3, .inr (.inr (.inr (.inr ft)))))]) := hD
  have hP : va_P D cls ([(h, .inr (1, [.ref r])), (r, .inl (cT, 3, .inr (.inr (.inr (.inr ft)))))] ++ (tx cI a (mvI mv) (nI R.length) qk qv qb qf qh qc (2 ^ (4 + j)) K V P N G C fl (nI mm))) H := hP.sub [7, 8, 0, 1, 2, 3, 4, 5, 6] rfl
  have hD : va_D A ([(h, .inr (1, [.ref r])), (r, .inl (cT, 3, .inr (.inr (.inr (.inr ft)))))] ++ (tx cI a (mvI mv) (nI R.length) qk qv qb qf qh qc (2 ^ (4 + j)) K V P N G C fl (nI mm))) := hD.sub [7, 8, 0, 1, 2, 3, 4, 5, 6] (by decide) rfl
  refine lv_astore_n (lv' := [(2, .ref a), (0, .ref h), (1, .int (nI km))]) hx hb d_hh_size_5 rfl hl (by decide) rfl (fun ls hl => ?_)
  refine lv_aload_n hx hb d_hh_size_6 rfl (lv_at hl 0 rfl) ?_
  refine lv_ifnonnull (tgt := 14) hx hb d_hh_size_7 (by decide) ?_
  refine lv_aload_n hx hb d_hh_size_14 rfl (lv_at hl 0 rfl) ?_
  refine va_get (D := D) (ci := 0) (v := .int (nI R.length)) (C := R_tb) (T := F_tb) (N := 10) hx hb hts i_tb hown hK hP 2 rfl rfl 1 (by decide) (hts _ kf_hh_51) (fun _ h9 => h9) rfl d_hh_size_15 ?_
  exact cg_iret (u := ()) hQ hx hb hr hlk hK hP hD hS (by rw [hLl]) d_hh_size_18
set_option maxRecDepth 100000 in
set_option maxHeartbeats 4000000 in
theorem c_hh_size_x (l : Launch) (D : va_G) (cI cT cP : ClassId) (h r : Nat) (q : Int32) (hq : bad q)  : Cg l y_hh_size b_hh_size 3 (some .int) 1 0 0 D (ty3 cI cT cP) [.ref h, .int q] ([(h, .inr (1, [.ref r]))]) (fun (v : Option Value) (u : Unit) => v = some (.int (-1))) (fun u => [(h, .inr (1, [.ref r]))]) := by
  refine cg_enter rfl (Nat.le_of_ble_eq_true rfl) ?_
  intro p e s m below meth c args hx hb hr hlk hml hown hin hts A hA hK hP hD hS ls hl Q hQ
  have hl : lv_has ls 3 [(0, .ref h), (1, .int q)] := hl
  have hP : va_P D cls ([(h, .inr (1, [.ref r]))]) s.heap := hP
  have hD : va_D A ([(h, .inr (1, [.ref r]))]) := hD
  refine lv_aload_n hx hb d_hh_size_0 rfl (lv_at hl 0 rfl) ?_
  refine lv_iload_n hx hb d_hh_size_1 rfl (lv_at hl 1 rfl) ?_
  refine cg_V (hn := 1) (As := [.int q]) (rest := []) (wr := []) (q0 := 0) (ci := 1) hx hb hml hown hts (c_hh_tableOf_x l D cI cT cP h r q hq) km_hh_18 ki_hh_tableOf ks_hh_tableOf kn_hh kc_hh_tableOf (by decide +kernel) rfl ⟨Nat.le_of_ble_eq_true rfl, Nat.le_of_ble_eq_true rfl⟩ hK hP hD hS hA [0] [] rfl (by decide) rfl (by decide) (by decide) rfl rfl hl.1 rfl (Nat.le_of_ble_eq_true rfl) d_hh_size_2 ⟨Nat.zero_le _, Nat.zero_le _⟩ (fun v u H locs hpost hP hD hS => ?_)
  subst hpost
  refine W.eq (g2 := F0 m 5 ls [.null]) rfl ?_
  have hP : va_P D cls ([(h, .inr (1, [.ref r]))]) H := hP
  have hD : va_D A ([(h, .inr (1, [.ref r]))]) := hD
  refine lv_astore_nN (lv' := [(2, .null), (0, .ref h), (1, .int q)]) hx hb d_hh_size_5 rfl hl (by decide) rfl (fun ls hl => ?_)
  refine lv_aload_nN hx hb d_hh_size_6 rfl (lv_at hl 0 rfl) ?_
  refine lv_ifnonnullN hx hb d_hh_size_7 ?_
  refine lv_iconst (v := (-1)) hx hb d_hh_size_10 (by decide) ?_
  refine lv_goto (tgt := 18) hx hb d_hh_size_11 (by decide) ?_
  exact cg_iret (u := ()) hQ hx hb hr hlk hK hP hD hS rfl d_hh_size_18
set_option maxRecDepth 100000 in
set_option maxHeartbeats 4000000 in
/-- clear -/
theorem c_hh_clear (l : Launch) (D : va_G) (cI cT cP : ClassId) (h r : Nat) (ft : Nat → Option Nat) (km : Nat) (hkm : km < 3) (a : Nat) (hft : ft km = some a) (mv : Bool) (j : Nat) (L : List (Int32 × Int32)) (u0 : TB) (hL : TL j L u0) : Cg l y_hh_clear b_hh_clear 3 (some .int) 2 0 0 D (ty3 cI cT cP) [.ref h, .int (nI km)] ([(h, .inr (1, [.ref r])), (r, .inl (cT, 3, .inr (.inr (.inr (.inr ft)))))] ++ (tw cI a mv j u0)) (fun (v : Option Value) (u : TB) => v = some (.int (nI L.length)) ∧ TL j [] u) (fun u => [(h, .inr (1, [.ref r])), (r, .inl (cT, 3, .inr (.inr (.inr (.inr ft)))))] ++ (tw cI a mv j u)) := by
  refine cg_enter rfl (Nat.le_of_ble_eq_true rfl) ?_
  intro p e s m below meth c args hx hb hr hlk hml hown hin hts A hA hK hP hD hS ls hl Q hQ
  have hl : lv_has ls 3 [(0, .ref h), (1, .int (nI km))] := hl
  have hP : va_P D cls ([(h, .inr (1, [.ref r])), (r, .inl (cT, 3, .inr (.inr (.inr (.inr ft)))))] ++ (tw cI a mv j u0)) s.heap := hP
  have hD : va_D A ([(h, .inr (1, [.ref r])), (r, .inl (cT, 3, .inr (.inr (.inr (.inr ft)))))] ++ (tw cI a mv j u0)) := hD
  refine lv_aload_n hx hb d_hh_clear_0 rfl (lv_at hl 0 rfl) ?_
  refine lv_iload_n hx hb d_hh_clear_1 rfl (lv_at hl 1 rfl) ?_
  refine cg_V (hn := 1) (As := [.int (nI km)]) (rest := []) (wr := tw cI a mv j u0) (q0 := 0) (ci := 1) hx hb hml hown hts (c_hh_tableOf l D cI cT cP h r ft km hkm a hft) km_hh_18 ki_hh_tableOf ks_hh_tableOf kn_hh kc_hh_tableOf (by decide +kernel) rfl ⟨Nat.le_of_ble_eq_true rfl, Nat.le_of_ble_eq_true rfl⟩ hK hP hD hS hA [0, 1] [2, 3, 4, 5, 6, 7, 8] rfl (by decide) rfl (by decide) (by decide) rfl rfl hl.1 rfl (Nat.le_of_ble_eq_true rfl) d_hh_clear_2 ⟨Nat.zero_le _, Nat.zero_le _⟩ (fun v u H locs hpost hP hD hS => ?_)
  subst hpost
  refine W.eq (g2 := F0 m 5 ls [.ref a]) rfl ?_
  have hP : va_P D cls ((tw cI a mv j u0) ++ [(h, .inr (1, [.ref r])), (r, .inl (cT, 3, .inr (.inr (.inr (.inr ft)))))]) H := hP
  have hD : va_D A ((tw cI a mv j u0) ++ [(h, .inr (1, [.ref r])), (r, .inl (cT, 3, .inr (.inr (.inr (.inr ft)))))]) := hD
  have hP : va_P D cls ([(h, .inr (1, [.ref r])), (r, .inl (cT, 3, .inr (.inr (.inr (.inr ft)))))] ++ (tw cI a mv j u0)) H := hP.sub [7, 8, 0, 1, 2, 3, 4, 5, 6] rfl
  have hD : va_D A ([(h, .inr (1, [.ref r])), (r, .inl (cT, 3, .inr (.inr (.inr (.inr ft)))))] ++ (tw cI a mv j u0)) := hD.sub [7, 8, 0, 1, 2, 3, 4, 5, 6] (by decide) rfl
  refine lv_astore_n (lv' := [(2, .ref a), (0, .ref h), (1, .int (nI km))]) hx hb d_hh_clear_5 rfl hl (by decide) rfl (fun ls hl => ?_)
  refine lv_aload_n hx hb d_hh_clear_6 rfl (lv_at hl 0 rfl) ?_
  refine lv_ifnonnull (tgt := 14) hx hb d_hh_clear_7 (by decide) ?_
  refine lv_aload_n hx hb d_hh_clear_14 rfl (lv_at hl 0 rfl) ?_
  refine cg_V (hn := 0) (As := []) (rest := []) (wr := [(h, .inr (1, [.ref r])), (r, .inl (cT, 3, .inr (.inr (.inr (.inr ft)))))]) (q0 := 0) (ci := 0) hx hb hml hown hts (c_tb_dropAll l D cI cT cP a mv j L u0 hL) km_hh_55 ki_tb_dropAll ks_tb_dropAll kn_tb kc_tb_dropAll (by decide +kernel) rfl ⟨Nat.le_of_ble_eq_true rfl, Nat.le_of_ble_eq_true rfl⟩ hK hP hD hS hA [2, 3, 4, 5, 6, 7, 8] [0, 1] rfl (by decide) rfl (by decide) (by decide) rfl rfl hl.1 rfl (Nat.le_of_ble_eq_true rfl) d_hh_clear_15 ⟨Nat.zero_le _, Nat.zero_le _⟩ (fun v u H locs hpost hP hD hS => ?_)
  obtain ⟨e9, hT2⟩ := hpost
  subst e9
  refine W.eq (g2 := F0 m 18 ls [.int (nI L.length)]) rfl ?_
  have hP : va_P D cls ([(h, .inr (1, [.ref r])), (r, .inl (cT, 3, .inr (.inr (.inr (.inr ft)))))] ++ (tw cI a mv j u)) H := hP
  have hD : va_D A ([(h, .inr (1, [.ref r])), (r, .inl (cT, 3, .inr (.inr (.inr (.inr ft)))))] ++ (tw cI a mv j u)) := hD
  exact cg_iret (u := u) hQ hx hb hr hlk hK hP hD hS (⟨rfl, hT2⟩) d_hh_clear_18
set_option maxRecDepth 100000 in
set_option maxHeartbeats 4000000 in
theorem c_hh_clear_x (l : Launch) (D : va_G) (cI cT cP : ClassId) (h r : Nat) (q : Int32) (hq : bad q)  : Cg l y_hh_clear b_hh_clear 3 (some .int) 2 0 0 D (ty3 cI cT cP) [.ref h, .int q] ([(h, .inr (1, [.ref r]))]) (fun (v : Option Value) (u : Unit) => v = some (.int (-1))) (fun u => [(h, .inr (1, [.ref r]))]) := by
  refine cg_enter rfl (Nat.le_of_ble_eq_true rfl) ?_
  intro p e s m below meth c args hx hb hr hlk hml hown hin hts A hA hK hP hD hS ls hl Q hQ
  have hl : lv_has ls 3 [(0, .ref h), (1, .int q)] := hl
  have hP : va_P D cls ([(h, .inr (1, [.ref r]))]) s.heap := hP
  have hD : va_D A ([(h, .inr (1, [.ref r]))]) := hD
  refine lv_aload_n hx hb d_hh_clear_0 rfl (lv_at hl 0 rfl) ?_
  refine lv_iload_n hx hb d_hh_clear_1 rfl (lv_at hl 1 rfl) ?_
  refine cg_V (hn := 1) (As := [.int q]) (rest := []) (wr := []) (q0 := 0) (ci := 1) hx hb hml hown hts (c_hh_tableOf_x l D cI cT cP h r q hq) km_hh_18 ki_hh_tableOf ks_hh_tableOf kn_hh kc_hh_tableOf (by decide +kernel) rfl ⟨Nat.le_of_ble_eq_true rfl, Nat.le_of_ble_eq_true rfl⟩ hK hP hD hS hA [0] [] rfl (by decide) rfl (by decide) (by decide) rfl rfl hl.1 rfl (Nat.le_of_ble_eq_true rfl) d_hh_clear_2 ⟨Nat.zero_le _, Nat.zero_le _⟩ (fun v u H locs hpost hP hD hS => ?_)
  subst hpost
  refine W.eq (g2 := F0 m 5 ls [.null]) rfl ?_
  have hP : va_P D cls ([(h, .inr (1, [.ref r]))]) H := hP
  have hD : va_D A ([(h, .inr (1, [.ref r]))]) := hD
  refine lv_astore_nN (lv' := [(2, .null), (0, .ref h), (1, .int q)]) hx hb d_hh_clear_5 rfl hl (by decide) rfl (fun ls hl => ?_)
  refine lv_aload_nN hx hb d_hh_clear_6 rfl (lv_at hl 0 rfl) ?_
  refine lv_ifnonnullN hx hb d_hh_clear_7 ?_
  refine lv_iconst (v := (-1)) hx hb d_hh_clear_10 (by decide) ?_
  refine lv_goto (tgt := 18) hx hb d_hh_clear_11 (by decide) ?_
  exact cg_iret (u := ()) hQ hx hb hr hlk hK hP hD hS rfl d_hh_clear_18
set_option maxRecDepth 100000 in
set_option maxHeartbeats 4000000 in
/-- sum -/
theorem c_hh_sum (l : Launch) (D : va_G) (cI cT cP : ClassId) (h r : Nat) (ft : Nat → Option Nat) (km : Nat) (hkm : km < 3) (a : Nat) (hft : ft km = some a) (mv : Bool) (j : Nat) (L : List (Int32 × Int32)) (u0 : TB) (hL : TL j L u0) : Cg l y_hh_sum b_hh_sum 3 (some .long) 1 0 0 D (ty3 cI cT cP) [.ref h, .int (nI km)] ([(h, .inr (1, [.ref r])), (r, .inl (cT, 3, .inr (.inr (.inr (.inr ft)))))] ++ (tw cI a mv j u0)) (fun (v : Option Value) (u : Unit) => v = some (.long (sm L))) (fun u => [(h, .inr (1, [.ref r])), (r, .inl (cT, 3, .inr (.inr (.inr (.inr ft)))))] ++ (tw cI a mv j u0)) := by
  refine cg_enter rfl (Nat.le_of_ble_eq_true rfl) ?_
  intro p e s m below meth c args hx hb hr hlk hml hown hin hts A hA hK hP hD hS ls hl Q hQ
  have hl : lv_has ls 3 [(0, .ref h), (1, .int (nI km))] := hl
  have hP : va_P D cls ([(h, .inr (1, [.ref r])), (r, .inl (cT, 3, .inr (.inr (.inr (.inr ft)))))] ++ (tw cI a mv j u0)) s.heap := hP
  have hD : va_D A ([(h, .inr (1, [.ref r])), (r, .inl (cT, 3, .inr (.inr (.inr (.inr ft)))))] ++ (tw cI a mv j u0)) := hD
  refine lv_aload_n hx hb d_hh_sum_0 rfl (lv_at hl 0 rfl) ?_
  refine lv_iload_n hx hb d_hh_sum_1 rfl (lv_at hl 1 rfl) ?_
  refine cg_V (hn := 1) (As := [.int (nI km)]) (rest := []) (wr := tw cI a mv j u0) (q0 := 0) (ci := 1) hx hb hml hown hts (c_hh_tableOf l D cI cT cP h r ft km hkm a hft) km_hh_18 ki_hh_tableOf ks_hh_tableOf kn_hh kc_hh_tableOf (by decide +kernel) rfl ⟨Nat.le_of_ble_eq_true rfl, Nat.le_of_ble_eq_true rfl⟩ hK hP hD hS hA [0, 1] [2, 3, 4, 5, 6, 7, 8] rfl (by decide) rfl (by decide) (by decide) rfl rfl hl.1 rfl (Nat.le_of_ble_eq_true rfl) d_hh_sum_2 ⟨Nat.zero_le _, Nat.zero_le _⟩ (fun v u H locs hpost hP hD hS => ?_)
  subst hpost
  refine W.eq (g2 := F0 m 5 ls [.ref a]) rfl ?_
  have hP : va_P D cls ((tw cI a mv j u0) ++ [(h, .inr (1, [.ref r])), (r, .inl (cT, 3, .inr (.inr (.inr (.inr ft)))))]) H := hP
  have hD : va_D A ((tw cI a mv j u0) ++ [(h, .inr (1, [.ref r])), (r, .inl (cT, 3, .inr (.inr (.inr (.inr ft)))))]) := hD
  have hP : va_P D cls ([(h, .inr (1, [.ref r])), (r, .inl (cT, 3, .inr (.inr (.inr (.inr ft)))))] ++ (tw cI a mv j u0)) H := hP.sub [7, 8, 0, 1, 2, 3, 4, 5, 6] rfl
  have hD : va_D A ([(h, .inr (1, [.ref r])), (r, .inl (cT, 3, .inr (.inr (.inr (.inr ft)))))] ++ (tw cI a mv j u0)) := hD.sub [7, 8, 0, 1, 2, 3, 4, 5, 6] (by decide) rfl
  refine lv_astore_n (lv' := [(2, .ref a), (0, .ref h), (1, .int (nI km))]) hx hb d_hh_sum_5 rfl hl (by decide) rfl (fun ls hl => ?_)
  refine lv_aload_n hx hb d_hh_sum_6 rfl (lv_at hl 0 rfl) ?_
  refine lv_ifnonnull (tgt := 16) hx hb d_hh_sum_7 (by decide) ?_
  refine lv_aload_n hx hb d_hh_sum_16 rfl (lv_at hl 0 rfl) ?_
  refine cg_V (hn := 0) (As := []) (rest := []) (wr := [(h, .inr (1, [.ref r])), (r, .inl (cT, 3, .inr (.inr (.inr (.inr ft)))))]) (q0 := 0) (ci := 0) hx hb hml hown hts (c_tb_total l D cI cT cP a mv j L u0 hL) km_hh_78 ki_tb_total ks_tb_total kn_tb kc_tb_total (by decide +kernel) rfl ⟨Nat.le_of_ble_eq_true rfl, Nat.le_of_ble_eq_true rfl⟩ hK hP hD hS hA [2, 3, 4, 5, 6, 7, 8] [0, 1] rfl (by decide) rfl (by decide) (by decide) rfl rfl hl.1 rfl (Nat.le_of_ble_eq_true rfl) d_hh_sum_17 ⟨Nat.zero_le _, Nat.zero_le _⟩ (fun v u H locs hpost hP hD hS => ?_)
  subst hpost
  refine W.eq (g2 := F0 m 20 ls [.long (sm L)]) rfl ?_
  have hP : va_P D cls ([(h, .inr (1, [.ref r])), (r, .inl (cT, 3, .inr (.inr (.inr (.inr ft)))))] ++ (tw cI a mv j u0)) H := hP
  have hD : va_D A ([(h, .inr (1, [.ref r])), (r, .inl (cT, 3, .inr (.inr (.inr (.inr ft)))))] ++ (tw cI a mv j u0)) := hD
  exact cg_lret (u := ()) hQ hx hb hr hlk hK hP hD hS rfl d_hh_sum_20
set_option maxRecDepth 100000 in
set_option maxHeartbeats 4000000 in
theorem c_hh_sum_x (l : Launch) (D : va_G) (cI cT cP : ClassId) (h r : Nat) (q : Int32) (hq : bad q)  : Cg l y_hh_sum b_hh_sum 3 (some .long) 1 0 0 D (ty3 cI cT cP) [.ref h, .int q] ([(h, .inr (1, [.ref r]))]) (fun (v : Option Value) (u : Unit) => v = some (.long 1099511627777)) (fun u => [(h, .inr (1, [.ref r]))]) := by
  refine cg_enter rfl (Nat.le_of_ble_eq_true rfl) ?_
  intro p e s m below meth c args hx hb hr hlk hml hown hin hts A hA hK hP hD hS ls hl Q hQ
  have hl : lv_has ls 3 [(0, .ref h), (1, .int q)] := hl
  have hP : va_P D cls ([(h, .inr (1, [.ref r]))]) s.heap := hP
  have hD : va_D A ([(h, .inr (1, [.ref r]))]) := hD
  refine lv_aload_n hx hb d_hh_sum_0 rfl (lv_at hl 0 rfl) ?_
  refine lv_iload_n hx hb d_hh_sum_1 rfl (lv_at hl 1 rfl) ?_
  refine cg_V (hn := 1) (As := [.int q]) (rest := []) (wr := []) (q0 := 0) (ci := 1) hx hb hml hown hts (c_hh_tableOf_x l D cI cT cP h r q hq) km_hh_18 ki_hh_tableOf ks_hh_tableOf kn_hh kc_hh_tableOf (by decide +kernel) rfl ⟨Nat.le_of_ble_eq_true rfl, Nat.le_of_ble_eq_true rfl⟩ hK hP hD hS hA [0] [] rfl (by decide) rfl (by decide) (by decide) rfl rfl hl.1 rfl (Nat.le_of_ble_eq_true rfl) d_hh_sum_2 ⟨Nat.zero_le _, Nat.zero_le _⟩ (fun v u H locs hpost hP hD hS => ?_)
  subst hpost
  refine W.eq (g2 := F0 m 5 ls [.null]) rfl ?_
  have hP : va_P D cls ([(h, .inr (1, [.ref r]))]) H := hP
  have hD : va_D A ([(h, .inr (1, [.ref r]))]) := hD
  refine lv_astore_nN (lv' := [(2, .null), (0, .ref h), (1, .int q)]) hx hb d_hh_sum_5 rfl hl (by decide) rfl (fun ls hl => ?_)
  refine lv_aload_nN hx hb d_hh_sum_6 rfl (lv_at hl 0 rfl) ?_
  refine lv_ifnonnullN hx hb d_hh_sum_7 ?_
  refine lv_ldc2 hx hb hown (hts _ kk_hh_22) d_hh_sum_10 ?_
  refine lv_goto (tgt := 20) hx hb d_hh_sum_13 (by decide) ?_
  exact cg_lret (u := ()) hQ hx hb hr hlk hK hP hD hS rfl d_hh_sum_20
set_option maxRecDepth 100000 in
set_option maxHeartbeats 4000000 in
/-- raise -/
theorem c_hh_raise (l : Launch) (D : va_G) (cI cT cP : ClassId) (h r : Nat) (ft : Nat → Option Nat) (km : Nat) (hkm : km < 3) (a : Nat) (hft : ft km = some a) (mv : Bool) (j : Nat) (L : List (Int32 × Int32)) (u0 : TB) (hL : TL j L u0) (b0 : Int32) : Cg l y_hh_raise b_hh_raise 4 (some .int) 1 0 0 D (ty3 cI cT cP) [.ref h, .int (nI km), .int b0] ([(h, .inr (1, [.ref r])), (r, .inl (cT, 3, .inr (.inr (.inr (.inr ft)))))] ++ (tw cI a mv j u0)) (fun (v : Option Value) (u : TB) => v = some (.int (nI L.length)) ∧ TL j (rs b0 L) u) (fun u => [(h, .inr (1, [.ref r])), (r, .inl (cT, 3, .inr (.inr (.inr (.inr ft)))))] ++ (tw cI a mv j u)) := by
  refine cg_enter rfl (Nat.le_of_ble_eq_true rfl) ?_
  intro p e s m below meth c args hx hb hr hlk hml hown hin hts A hA hK hP hD hS ls hl Q hQ
  have hl : lv_has ls 4 [(0, .ref h), (1, .int (nI km)), (2, .int b0)] := hl
  have hP : va_P D cls ([(h, .inr (1, [.ref r])), (r, .inl (cT, 3, .inr (.inr (.inr (.inr ft)))))] ++ (tw cI a mv j u0)) s.heap := hP
  have hD : va_D A ([(h, .inr (1, [.ref r])), (r, .inl (cT, 3, .inr (.inr (.inr (.inr ft)))))] ++ (tw cI a mv j u0)) := hD
  refine lv_aload_n hx hb d_hh_raise_0 rfl (lv_at hl 0 rfl) ?_
  refine lv_iload_n hx hb d_hh_raise_1 rfl (lv_at hl 1 rfl) ?_
  refine cg_V (hn := 1) (As := [.int (nI km)]) (rest := []) (wr := tw cI a mv j u0) (q0 := 0) (ci := 1) hx hb hml hown hts (c_hh_tableOf l D cI cT cP h r ft km hkm a hft) km_hh_18 ki_hh_tableOf ks_hh_tableOf kn_hh kc_hh_tableOf (by decide +kernel) rfl ⟨Nat.le_of_ble_eq_true rfl, Nat.le_of_ble_eq_true rfl⟩ hK hP hD hS hA [0, 1] [2, 3, 4, 5, 6, 7, 8] rfl (by decide) rfl (by decide) (by decide) rfl rfl hl.1 rfl (Nat.le_of_ble_eq_true rfl) d_hh_raise_2 ⟨Nat.zero_le _, Nat.zero_le _⟩ (fun v u H locs hpost hP hD hS => ?_)
  subst hpost
  refine W.eq (g2 := F0 m 5 ls [.ref a]) rfl ?_
  have hP : va_P D cls ((tw cI a mv j u0) ++ [(h, .inr (1, [.ref r])), (r, .inl (cT, 3, .inr (.inr (.inr (.inr ft)))))]) H := hP
  have hD : va_D A ((tw cI a mv j u0) ++ [(h, .inr (1, [.ref r])), (r, .inl (cT, 3, .inr (.inr (.inr (.inr ft)))))]) := hD
  have hP : va_P D cls ([(h, .inr (1, [.ref r])), (r, .inl (cT, 3, .inr (.inr (.inr (.inr ft)))))] ++ (tw cI a mv j u0)) H := hP.sub [7, 8, 0, 1, 2, 3, 4, 5, 6] rfl
  have hD : va_D A ([(h, .inr (1, [.ref r])), (r, .inl (cT, 3, .inr (.inr (.inr (.inr ft)))))] ++ (tw cI a mv j u0)) := hD.sub [7, 8, 0, 1, 2, 3, 4, 5, 6] (by decide) rfl
  refine lv_astore_n (lv' := [(3, .ref a), (0, .ref h), (1, .int (nI km)), (2, .int b0)]) hx hb d_hh_raise_5 rfl hl (by decide) rfl (fun ls hl => ?_)
  refine lv_aload_n hx hb d_hh_raise_6 rfl (lv_at hl 0 rfl) ?_
  refine lv_ifnonnull (tgt := 14) hx hb d_hh_raise_7 (by decide) ?_
  refine lv_aload_n hx hb d_hh_raise_14 rfl (lv_at hl 0 rfl) ?_
  refine lv_iload_n hx hb d_hh_raise_15 rfl (lv_at hl 3 rfl) ?_
  refine cg_V (hn := 1) (As := [.int b0]) (rest := []) (wr := [(h, .inr (1, [.ref r])), (r, .inl (cT, 3, .inr (.inr (.inr (.inr ft)))))]) (q0 := 0) (ci := 0) hx hb hml hown hts (c_tb_increase l D cI cT cP a mv j L u0 hL b0) km_hh_86 ki_tb_increase ks_tb_increase kn_tb kc_tb_increase (by decide +kernel) rfl ⟨Nat.le_of_ble_eq_true rfl, Nat.le_of_ble_eq_true rfl⟩ hK hP hD hS hA [2, 3, 4, 5, 6, 7, 8] [0, 1] rfl (by decide) rfl (by decide) (by decide) rfl rfl hl.1 rfl (Nat.le_of_ble_eq_true rfl) d_hh_raise_16 ⟨Nat.zero_le _, Nat.zero_le _⟩ (fun v u H locs hpost hP hD hS => ?_)
  obtain ⟨e9, hT2⟩ := hpost
  subst e9
  refine W.eq (g2 := F0 m 19 ls [.int (nI L.length)]) rfl ?_
  have hP : va_P D cls ([(h, .inr (1, [.ref r])), (r, .inl (cT, 3, .inr (.inr (.inr (.inr ft)))))] ++ (tw cI a mv j u)) H := hP
  have hD : va_D A ([(h, .inr (1, [.ref r])), (r, .inl (cT, 3, .inr (.inr (.inr (.inr ft)))))] ++ (tw cI a mv j u)) := hD
  exact cg_iret (u := u) hQ hx hb hr hlk hK hP hD hS (⟨rfl, hT2⟩) d_hh_raise_19
set_option maxRecDepth 100000 in
set_option maxHeartbeats 4000000 in
theorem c_hh_raise_x (l : Launch) (D : va_G) (cI cT cP : ClassId) (h r : Nat) (q : Int32) (hq : bad q) (b0 : Int32) : Cg l y_hh_raise b_hh_raise 4 (some .int) 1 0 0 D (ty3 cI cT cP) [.ref h, .int q, .int b0] ([(h, .inr (1, [.ref r]))]) (fun (v : Option Value) (u : Unit) => v = some (.int (-1))) (fun u => [(h, .inr (1, [.ref r]))]) := by
  refine cg_enter rfl (Nat.le_of_ble_eq_true rfl) ?_
  intro p e s m below meth c args hx hb hr hlk hml hown hin hts A hA hK hP hD hS ls hl Q hQ
  have hl : lv_has ls 4 [(0, .ref h), (1, .int q), (2, .int b0)] := hl
  have hP : va_P D cls ([(h, .inr (1, [.ref r]))]) s.heap := hP
  have hD : va_D A ([(h, .inr (1, [.ref r]))]) := hD
  refine lv_aload_n hx hb d_hh_raise_0 rfl (lv_at hl 0 rfl) ?_
  refine lv_iload_n hx hb d_hh_raise_1 rfl (lv_at hl 1 rfl) ?_
  refine cg_V (hn := 1) (As := [.int q]) (rest := []) (wr := []) (q0 := 0) (ci := 1) hx hb hml hown hts (c_hh_tableOf_x l D cI cT cP h r q hq) km_hh_18 ki_hh_tableOf ks_hh_tableOf kn_hh kc_hh_tableOf (by decide +kernel) rfl ⟨Nat.le_of_ble_eq_true rfl, Nat.le_of_ble_eq_true rfl⟩ hK hP hD hS hA [0] [] rfl (by decide) rfl (by decide) (by decide) rfl rfl hl.1 rfl (Nat.le_of_ble_eq_true rfl) d_hh_raise_2 ⟨Nat.zero_le _, Nat.zero_le _⟩ (fun v u H locs hpost hP hD hS => ?_)
  subst hpost
  refine W.eq (g2 := F0 m 5 ls [.null]) rfl ?_
  have hP : va_P D cls ([(h, .inr (1, [.ref r]))]) H := hP
  have hD : va_D A ([(h, .inr (1, [.ref r]))]) := hD
  refine lv_astore_nN (lv' := [(3, .null), (0, .ref h), (1, .int q), (2, .int b0)]) hx hb d_hh_raise_5 rfl hl (by decide) rfl (fun ls hl => ?_)
  refine lv_aload_nN hx hb d_hh_raise_6 rfl (lv_at hl 0 rfl) ?_
  refine lv_ifnonnullN hx hb d_hh_raise_7 ?_
  refine lv_iconst (v := (-1)) hx hb d_hh_raise_10 (by decide) ?_
  refine lv_goto (tgt := 19) hx hb d_hh_raise_11 (by decide) ?_
  exact cg_iret (u := ()) hQ hx hb hr hlk hK hP hD hS rfl d_hh_raise_19
set_option maxRecDepth 100000 in
set_option maxHeartbeats 4000000 in
/-- sweep -/
theorem c_hh_sweep (l : Launch) (D : va_G) (cI cT cP : ClassId) (h r : Nat) (ft : Nat → Option Nat) (km : Nat) (hkm : km < 3) (a : Nat) (hft : ft km = some a) (mv : Bool) (j : Nat) (L : List (Int32 × Int32)) (u0 : TB) (hL : TL j L u0) (d0 r0 : Int32) : Cg l y_hh_sweep b_hh_sweep 5 (some .int) 4 0 0 D (ty3 cI cT cP) [.ref h, .int (nI km), .int d0, .int r0] ([(h, .inr (1, [.ref r])), (r, .inl (cT, 3, .inr (.inr (.inr (.inr ft)))))] ++ (tw cI a mv j u0)) (fun (v : Option Value) (u : TB) => v = some (.int (swa d0 r0 L)) ∧ TL j (swl d0 r0 L) u) (fun u => [(h, .inr (1, [.ref r])), (r, .inl (cT, 3, .inr (.inr (.inr (.inr ft)))))] ++ (tw cI a mv j u)) := by
  refine cg_enter rfl (Nat.le_of_ble_eq_true rfl) ?_
  intro p e s m below meth c args hx hb hr hlk hml hown hin hts A hA hK hP hD hS ls hl Q hQ
  have hl : lv_has ls 5 [(0, .ref h), (1, .int (nI km)), (2, .int d0), (3, .int r0)] := hl
  have hP : va_P D cls ([(h, .inr (1, [.ref r])), (r, .inl (cT, 3, .inr (.inr (.inr (.inr ft)))))] ++ (tw cI a mv j u0)) s.heap := hP
  have hD : va_D A ([(h, .inr (1, [.ref r])), (r, .inl (cT, 3, .inr (.inr (.inr (.inr ft)))))] ++ (tw cI a mv j u0)) := hD
  refine lv_aload_n hx hb d_hh_sweep_0 rfl (lv_at hl 0 rfl) ?_
  refine lv_iload_n hx hb d_hh_sweep_1 rfl (lv_at hl 1 rfl) ?_
  refine cg_V (hn := 1) (As := [.int (nI km)]) (rest := []) (wr := tw cI a mv j u0) (q0 := 0) (ci := 1) hx hb hml hown hts (c_hh_tableOf l D cI cT cP h r ft km hkm a hft) km_hh_18 ki_hh_tableOf ks_hh_tableOf kn_hh kc_hh_tableOf (by decide +kernel) rfl ⟨Nat.le_of_ble_eq_true rfl, Nat.le_of_ble_eq_true rfl⟩ hK hP hD hS hA [0, 1] [2, 3, 4, 5, 6, 7, 8] rfl (by decide) rfl (by decide) (by decide) rfl rfl hl.1 rfl (Nat.le_of_ble_eq_true rfl) d_hh_sweep_2 ⟨Nat.zero_le _, Nat.zero_le _⟩ (fun v u H locs hpost hP hD hS => ?_)
  subst hpost
  refine W.eq (g2 := F0 m 5 ls [.ref a]) rfl ?_
  have hP : va_P D cls ((tw cI a mv j u0) ++ [(h, .inr (1, [.ref r])), (r, .inl (cT, 3, .inr (.inr (.inr (.inr ft)))))]) H := hP
  have hD : va_D A ((tw cI a mv j u0) ++ [(h, .inr (1, [.ref r])), (r, .inl (cT, 3, .inr (.inr (.inr (.inr ft)))))]) := hD
  have hP : va_P D cls ([(h, .inr (1, [.ref r])), (r, .inl (cT, 3, .inr (.inr (.inr (.inr ft)))))] ++ (tw cI a mv j u0)) H := hP.sub [7, 8, 0, 1, 2, 3, 4, 5, 6] rfl
  have hD : va_D A ([(h, .inr (1, [.ref r])), (r, .inl (cT, 3, .inr (.inr (.inr (.inr ft)))))] ++ (tw cI a mv j u0)) := hD.sub [7, 8, 0, 1, 2, 3, 4, 5, 6] (by decide) rfl
  refine lv_astore (lv' := [(4, .ref a), (0, .ref h), (1, .int (nI km)), (2, .int d0), (3, .int r0)]) hx hb d_hh_sweep_5 hl (by decide) rfl (fun ls hl => ?_)
  refine lv_aload hx hb d_hh_sweep_7 (lv_at hl 0 rfl) ?_
  refine lv_ifnull hx hb d_hh_sweep_9 ?_
  refine lv_iload_n hx hb d_hh_sweep_12 rfl (lv_at hl 3 rfl) ?_
  refine lv_iconst (v := 1) hx hb d_hh_sweep_13 (by decide) ?_
  by_cases h1 : 1 ≤ d0
  · refine lv_icmp_ge (tgt := 21) hx hb d_hh_sweep_14 (by decide) (fun _ => ?_) (fun z9 => absurd h1 z9)
    refine lv_aload hx hb d_hh_sweep_21 (lv_at hl 0 rfl) ?_
    refine lv_iload_n hx hb d_hh_sweep_23 rfl (lv_at hl 3 rfl) ?_
    refine lv_iload_n hx hb d_hh_sweep_24 rfl (lv_at hl 4 rfl) ?_
    have hd0 : ¬ d0 = 0 := fun z9 => by rw [z9] at h1; exact absurd h1 (by decide)
    refine cg_V (hn := 2) (As := [.int d0, .int r0]) (rest := []) (wr := [(h, .inr (1, [.ref r])), (r, .inl (cT, 3, .inr (.inr (.inr (.inr ft)))))]) (q0 := 0) (ci := 0) hx hb hml hown hts (c_tb_dropByRest l D cI cT cP a mv j L u0 hL d0 r0 hd0) km_hh_82 ki_tb_dropByRest ks_tb_dropByRest kn_tb kc_tb_dropByRest (by decide +kernel) rfl ⟨Nat.le_of_ble_eq_true rfl, Nat.le_of_ble_eq_true rfl⟩ hK hP hD hS hA [2, 3, 4, 5, 6, 7, 8] [0, 1] rfl (by decide) rfl (by decide) (by decide) rfl rfl hl.1 rfl (Nat.le_of_ble_eq_true rfl) d_hh_sweep_25 ⟨Nat.zero_le _, Nat.zero_le _⟩ (fun v u H locs hpost hP hD hS => ?_)
    obtain ⟨e9, hT2⟩ := hpost
    subst e9
    refine W.eq (g2 := F0 m 28 ls [.int (nI (L.length - (sw d0 r0 L).length))]) rfl ?_
    have hP : va_P D cls ([(h, .inr (1, [.ref r])), (r, .inl (cT, 3, .inr (.inr (.inr (.inr ft)))))] ++ (tw cI a mv j u)) H := hP
    have hD : va_D A ([(h, .inr (1, [.ref r])), (r, .inl (cT, 3, .inr (.inr (.inr (.inr ft)))))] ++ (tw cI a mv j u)) := hD
    exact cg_iret (u := u) hQ hx hb hr hlk hK hP hD hS (⟨by unfold swa; rw [if_pos h1], by unfold swl; rw [if_pos h1]; exact hT2⟩) d_hh_sweep_28
  · refine lv_icmp_ge (tgt := 21) hx hb d_hh_sweep_14 (by decide) (fun z9 => absurd z9 h1) (fun _ => ?_)
    refine lv_iconst (v := (-1)) hx hb d_hh_sweep_17 (by decide) ?_
    refine lv_goto (tgt := 28) hx hb d_hh_sweep_18 (by decide) ?_
    exact cg_iret (u := u0) hQ hx hb hr hlk hK hP hD hS (⟨by unfold swa; rw [if_neg h1], by unfold swl; rw [if_neg h1]; exact hL⟩) d_hh_sweep_28
set_option maxRecDepth 100000 in
set_option maxHeartbeats 4000000 in
theorem c_hh_sweep_x (l : Launch) (D : va_G) (cI cT cP : ClassId) (h r : Nat) (q : Int32) (hq : bad q) (d0 r0 : Int32) : Cg l y_hh_sweep b_hh_sweep 5 (some .int) 4 0 0 D (ty3 cI cT cP) [.ref h, .int q, .int d0, .int r0] ([(h, .inr (1, [.ref r]))]) (fun (v : Option Value) (u : Unit) => v = some (.int (-1))) (fun u => [(h, .inr (1, [.ref r]))]) := by
  refine cg_enter rfl (Nat.le_of_ble_eq_true rfl) ?_
  intro p e s m below meth c args hx hb hr hlk hml hown hin hts A hA hK hP hD hS ls hl Q hQ
  have hl : lv_has ls 5 [(0, .ref h), (1, .int q), (2, .int d0), (3, .int r0)] := hl
  have hP : va_P D cls ([(h, .inr (1, [.ref r]))]) s.heap := hP
  have hD : va_D A ([(h, .inr (1, [.ref r]))]) := hD
  refine lv_aload_n hx hb d_hh_sweep_0 rfl (lv_at hl 0 rfl) ?_
  refine lv_iload_n hx hb d_hh_sweep_1 rfl (lv_at hl 1 rfl) ?_
  refine cg_V (hn := 1) (As := [.int q]) (rest := []) (wr := []) (q0 := 0) (ci := 1) hx hb hml hown hts (c_hh_tableOf_x l D cI cT cP h r q hq) km_hh_18 ki_hh_tableOf ks_hh_tableOf kn_hh kc_hh_tableOf (by decide +kernel) rfl ⟨Nat.le_of_ble_eq_true rfl, Nat.le_of_ble_eq_true rfl⟩ hK hP hD hS hA [0] [] rfl (by decide) rfl (by decide) (by decide) rfl rfl hl.1 rfl (Nat.le_of_ble_eq_true rfl) d_hh_sweep_2 ⟨Nat.zero_le _, Nat.zero_le _⟩ (fun v u H locs hpost hP hD hS => ?_)
  subst hpost
  refine W.eq (g2 := F0 m 5 ls [.null]) rfl ?_
  have hP : va_P D cls ([(h, .inr (1, [.ref r]))]) H := hP
  have hD : va_D A ([(h, .inr (1, [.ref r]))]) := hD
  refine lv_astoreN (lv' := [(4, .null), (0, .ref h), (1, .int q), (2, .int d0), (3, .int r0)]) hx hb d_hh_sweep_5 hl (by decide) rfl (fun ls hl => ?_)
  refine lv_aloadN hx hb d_hh_sweep_7 (lv_at hl 0 rfl) ?_
  refine lv_ifnullN (tgt := 17) hx hb d_hh_sweep_9 (by decide) ?_
  refine lv_iconst (v := (-1)) hx hb d_hh_sweep_17 (by decide) ?_
  refine lv_goto (tgt := 28) hx hb d_hh_sweep_18 (by decide) ?_
  exact cg_iret (u := ()) hQ hx hb hr hlk hK hP hD hS rfl d_hh_sweep_28
set_option maxRecDepth 100000 in
set_option maxHeartbeats 4000000 in
/-- entry -/
theorem c_hh_entry (l : Launch) (D : va_G) (cI cT cP : ClassId) (h r : Nat) (ft : Nat → Option Nat) (km : Nat) (hkm : km < 3) (a : Nat) (hft : ft km = some a) (mv : Bool) (j : Nat) (L : List (Int32 × Int32)) (u0 : TB) (hL : TL j L u0) (q0 w0 : Int32) : Cg l y_hh_entry b_hh_entry 6 (some .long) 1 0 0 D (ty3 cI cT cP) [.ref h, .int (nI km), .int q0, .int w0] ([(h, .inr (1, [.ref r])), (r, .inl (cT, 3, .inr (.inr (.inr (.inr ft)))))] ++ (tw cI a mv j u0)) (fun (v : Option Value) (u : Unit) => v = some (.long (ey km w0 q0 L))) (fun u => [(h, .inr (1, [.ref r])), (r, .inl (cT, 3, .inr (.inr (.inr (.inr ft)))))] ++ (tw cI a mv j u0)) := by
  obtain ⟨qk, qv, qb, qf, qh, qc, K, V, P, N, G, C, fl, mm, R⟩ := u0
  obtain ⟨Fr, bl, hTA, hTN, hTH, hKn, eL⟩ := hL
  have hTA : TA (2 ^ (4 + j)) j mm R Fr := hTA
  have hTN : TN P N R := hTN
  have hTH : TH (2 ^ (4 + j)) K G C fl R Fr bl := hTH
  have hKn : (R.map K).Nodup := hKn
  have eL : L = kv K V R := eL
  have hLl : L.length = R.length := by rw [eL]; exact List.length_map ..
  have hn : 2 ^ (4 + j) < 2 ^ 31 := (ta_len hTA).2.2
  have hRl : R.length < 2 ^ 31 := (ta_len hTA).2.1
  refine cg_enter rfl (Nat.le_of_ble_eq_true rfl) ?_
  intro p e s m below meth c args hx hb hr hlk hml hown hin hts A hA hK hP hD hS ls hl Q hQ
  have hl : lv_has ls 6 [(0, .ref h), (1, .int (nI km)), (2, .int q0), (3, .int w0)] := hl
  have hP : va_P D cls ([(h, .inr (1, [.ref r])), (r, .inl (cT, 3, .inr (.inr (.inr (.inr ft)))))] ++ (tx cI a (mvI mv) (nI R.length) qk qv qb qf qh qc (2 ^ (4 + j)) K V P N G C fl (nI mm))) s.heap := hP
  have hD : va_D A ([(h, .inr (1, [.ref r])), (r, .inl (cT, 3, .inr (.inr (.inr (.inr ft)))))] ++ (tx cI a (mvI mv) (nI R.length) qk qv qb qf qh qc (2 ^ (4 + j)) K V P N G C fl (nI mm))) := hD
  refine lv_aload_n hx hb d_hh_entry_0 rfl (lv_at hl 0 rfl) ?_
  refine lv_iload_n hx hb d_hh_entry_1 rfl (lv_at hl 1 rfl) ?_
  refine cg_V (hn := 1) (As := [.int (nI km)]) (rest := []) (wr := tx cI a (mvI mv) (nI R.length) qk qv qb qf qh qc (2 ^ (4 + j)) K V P N G C fl (nI mm)) (q0 := 0) (ci := 1) hx hb hml hown hts (c_hh_tableOf l D cI cT cP h r ft km hkm a hft) km_hh_18 ki_hh_tableOf ks_hh_tableOf kn_hh kc_hh_tableOf (by decide +kernel) rfl ⟨Nat.le_of_ble_eq_true rfl, Nat.le_of_ble_eq_true rfl⟩ hK hP hD hS hA [0, 1] [2, 3, 4, 5, 6, 7, 8] rfl (by decide) rfl (by decide) (by decide) rfl rfl hl.1 rfl (Nat.le_of_ble_eq_true rfl) d_hh_entry_2 ⟨Nat.zero_le _, Nat.zero_le _⟩ (fun v u H locs hpost hP hD hS => ?_)
  subst hpost
  refine W.eq (g2 := F0 m 5 ls [.ref a]) rfl ?_
  have hP : va_P D cls ((tx cI a (mvI mv) (nI R.length) qk qv qb qf qh qc (2 ^ (4 + j)) K V P N G C fl (nI mm)) ++ [(h, .inr (1, [.ref r])), (r, .inl (cT, 3, .inr (.inr (.inr (.inr ft)))))]) H := hP
  have hD : va_D A ((tx cI a (mvI mv) (nI R.length) qk qv qb qf qh qc (2 ^ (4 + j)) K V P N G C fl (nI mm)) ++ [(h, .inr (1, [.ref r])), (r, .inl (cT, 3, .inr (.inr (.inr (.inr ft)))))]) := hD
  have hP : va_P D cls ([(h, .inr (1, [.ref r])), (r, .inl (cT, 3, .inr (.inr (.inr (.inr ft)))))] ++ (tx cI a (mvI mv) (nI R.length) qk qv qb qf qh qc (2 ^ (4 + j)) K V P N G C fl (nI mm))) H := hP.sub [7, 8, 0, 1, 2, 3, 4, 5, 6] rfl
  have hD : va_D A ([(h, .inr (1, [.ref r])), (r, .inl (cT, 3, .inr (.inr (.inr (.inr ft)))))] ++ (tx cI a (mvI mv) (nI R.length) qk qv qb qf qh qc (2 ^ (4 + j)) K V P N G C fl (nI mm))) := hD.sub [7, 8, 0, 1, 2, 3, 4, 5, 6] (by decide) rfl
  refine lv_astore (lv' := [(4, .ref a), (0, .ref h), (1, .int (nI km)), (2, .int q0), (3, .int w0)]) hx hb d_hh_entry_5 hl (by decide) rfl (fun ls hl => ?_)
  refine lv_aload hx hb d_hh_entry_7 (lv_at hl 0 rfl) ?_
  refine lv_ifnull hx hb d_hh_entry_9 ?_
  refine lv_iload_n hx hb d_hh_entry_12 rfl (lv_at hl 2 rfl) ?_
  by_cases hk0 : km = 0
  · refine lv_if_eq (tgt := 25) hx hb d_hh_entry_13 (by decide) (fun _ => ?_) (fun z9 => absurd (by rw [hk0]; rfl) z9)
    refine lv_ldc2 hx hb hown (hts _ kk_hh_22) d_hh_entry_25 ?_
    exact cg_lret (u := ()) hQ hx hb hr hlk hK hP hD hS (by unfold ey; rw [if_pos (Or.inl hk0)]) d_hh_entry_28
  · refine lv_if_eq (tgt := 25) hx hb d_hh_entry_13 (by decide) (fun z9 => absurd z9 (nI_ne0 (by omega) (by omega))) (fun _ => ?_)
    refine lv_iload_n hx hb d_hh_entry_16 rfl (lv_at hl 4 rfl) ?_
    by_cases h0 : w0 = 0
    · refine lv_if_eq (tgt := 29) hx hb d_hh_entry_17 (by decide) (fun _ => ?_) (fun z9 => absurd h0 z9)
      refine lv_aload hx hb d_hh_entry_29 (lv_at hl 0 rfl) ?_
      refine lv_iload_n hx hb d_hh_entry_31 rfl (lv_at hl 3 rfl) ?_
      refine cg_V (hn := 1) (As := [.int q0]) (rest := []) (wr := [(h, .inr (1, [.ref r])), (r, .inl (cT, 3, .inr (.inr (.inr (.inr ft)))))]) (q0 := 0) (ci := 0) hx hb hml hown hts (c_tb_slotAt l D cI cT cP a mv j L (qk, qv, qb, qf, qh, qc, K, V, P, N, G, C, fl, mm, R) ⟨Fr, bl, hTA, hTN, hTH, hKn, eL⟩ q0) km_hh_67 ki_tb_slotAt ks_tb_slotAt kn_tb kc_tb_slotAt (by decide +kernel) rfl ⟨Nat.le_of_ble_eq_true rfl, Nat.le_of_ble_eq_true rfl⟩ hK hP hD hS hA [2, 3, 4, 5, 6, 7, 8] [0, 1] rfl (by decide) rfl (by decide) (by decide) rfl rfl hl.1 rfl (Nat.le_of_ble_eq_true rfl) d_hh_entry_32 ⟨Nat.zero_le _, Nat.zero_le _⟩ (fun v u H locs hpost hP hD hS => ?_)
      subst hpost
      refine W.eq (g2 := F0 m 35 ls [.int (nI (sa q0 R))]) rfl ?_
      have hP : va_P D cls ([(h, .inr (1, [.ref r])), (r, .inl (cT, 3, .inr (.inr (.inr (.inr ft)))))] ++ (tx cI a (mvI mv) (nI R.length) qk qv qb qf qh qc (2 ^ (4 + j)) K V P N G C fl (nI mm))) H := hP
      have hD : va_D A ([(h, .inr (1, [.ref r])), (r, .inl (cT, 3, .inr (.inr (.inr (.inr ft)))))] ++ (tx cI a (mvI mv) (nI R.length) qk qv qb qf qh qc (2 ^ (4 + j)) K V P N G C fl (nI mm))) := hD
      have hey : ey km w0 q0 L = eyo w0 (at_ q0 L) := by unfold ey; rw [if_neg (fun z9 => z9.elim hk0 (fun z8 => z8 (Or.inl h0)))]
      refine lv_istore (lv' := [(5, .int (nI (sa q0 R))), (4, .ref a), (0, .ref h), (1, .int (nI km)), (2, .int q0), (3, .int w0)]) hx hb d_hh_entry_35 hl (by decide) rfl (fun ls hl => ?_)
      refine lv_iload hx hb d_hh_entry_37 (lv_at hl 0 rfl) ?_
      rcases sa_at (q := q0) (fun x hx1 => (ta_in hTA hx1).1) eL with ⟨e0, e1⟩ | ⟨hxR, e1⟩
      · refine lv_if_ne (tgt := 46) hx hb d_hh_entry_39 (by decide) (fun z9 => absurd (by rw [e0]; rfl) z9) (fun _ => ?_)
        refine lv_ldc2 hx hb hown (hts _ kk_hh_35) d_hh_entry_42 ?_
        exact cg_lret (u := ()) hQ hx hb hr hlk hK hP hD hS (by rw [hey, e1]; rfl) d_hh_entry_45
      · generalize sa q0 R = x at *
        have hxn := ta_in hTA hxR
        refine lv_if_ne (tgt := 46) hx hb d_hh_entry_39 (by decide) (fun _ => ?_) (fun z9 => absurd z9 (nI_ne0 hxn.1 (by omega)))
        refine lv_iload_n hx hb d_hh_entry_46 rfl (lv_at hl 5 rfl) ?_
        refine lv_if_ne (tgt := 62) hx hb d_hh_entry_47 (by decide) (fun z9 => absurd h0 z9) (fun _ => ?_)
        refine lv_aload hx hb d_hh_entry_50 (lv_at hl 1 rfl) ?_
        refine va_get (D := D) (ci := 0) (v := .ref qk) (C := R_tb) (T := F_tb) (N := 10) hx hb hts i_tb hown hK hP 2 rfl rfl 2 (by decide) (hts _ kf_hh_71) (fun _ h9 => h9) rfl d_hh_entry_52 ?_
        refine lv_iload hx hb d_hh_entry_55 (lv_at hl 0 rfl) ?_
        refine wa_ld (k := x) hx hb hK hP 3 0 rfl rfl hxn.2.2 hn d_hh_entry_57 ?_
        refine lv_i2l (v := (K x).toInt64) hx hb d_hh_entry_58 rfl ?_
        refine lv_goto (tgt := 71) hx hb d_hh_entry_59 (by decide) ?_
        exact cg_lret (u := ()) hQ hx hb hr hlk hK hP hD hS (by rw [hey, e1, eyo_k h0]) d_hh_entry_71
    · refine lv_if_eq (tgt := 29) hx hb d_hh_entry_17 (by decide) (fun z9 => absurd z9 h0) (fun _ => ?_)
      refine lv_iload_n hx hb d_hh_entry_20 rfl (lv_at hl 4 rfl) ?_
      refine lv_iconst (v := 1) hx hb d_hh_entry_21 (by decide) ?_
      by_cases h1 : w0 = 1
      · refine lv_icmp_eq (tgt := 29) hx hb d_hh_entry_22 (by decide) (fun _ => ?_) (fun z9 => absurd h1 z9)
        refine lv_aload hx hb d_hh_entry_29 (lv_at hl 0 rfl) ?_
        refine lv_iload_n hx hb d_hh_entry_31 rfl (lv_at hl 3 rfl) ?_
        refine cg_V (hn := 1) (As := [.int q0]) (rest := []) (wr := [(h, .inr (1, [.ref r])), (r, .inl (cT, 3, .inr (.inr (.inr (.inr ft)))))]) (q0 := 0) (ci := 0) hx hb hml hown hts (c_tb_slotAt l D cI cT cP a mv j L (qk, qv, qb, qf, qh, qc, K, V, P, N, G, C, fl, mm, R) ⟨Fr, bl, hTA, hTN, hTH, hKn, eL⟩ q0) km_hh_67 ki_tb_slotAt ks_tb_slotAt kn_tb kc_tb_slotAt (by decide +kernel) rfl ⟨Nat.le_of_ble_eq_true rfl, Nat.le_of_ble_eq_true rfl⟩ hK hP hD hS hA [2, 3, 4, 5, 6, 7, 8] [0, 1] rfl (by decide) rfl (by decide) (by decide) rfl rfl hl.1 rfl (Nat.le_of_ble_eq_true rfl) d_hh_entry_32 ⟨Nat.zero_le _, Nat.zero_le _⟩ (fun v u H locs hpost hP hD hS => ?_)
        subst hpost
        refine W.eq (g2 := F0 m 35 ls [.int (nI (sa q0 R))]) rfl ?_
        have hP : va_P D cls ([(h, .inr (1, [.ref r])), (r, .inl (cT, 3, .inr (.inr (.inr (.inr ft)))))] ++ (tx cI a (mvI mv) (nI R.length) qk qv qb qf qh qc (2 ^ (4 + j)) K V P N G C fl (nI mm))) H := hP
        have hD : va_D A ([(h, .inr (1, [.ref r])), (r, .inl (cT, 3, .inr (.inr (.inr (.inr ft)))))] ++ (tx cI a (mvI mv) (nI R.length) qk qv qb qf qh qc (2 ^ (4 + j)) K V P N G C fl (nI mm))) := hD
        have hey : ey km w0 q0 L = eyo w0 (at_ q0 L) := by unfold ey; rw [if_neg (fun z9 => z9.elim hk0 (fun z8 => z8 (Or.inr h1)))]
        refine lv_istore (lv' := [(5, .int (nI (sa q0 R))), (4, .ref a), (0, .ref h), (1, .int (nI km)), (2, .int q0), (3, .int w0)]) hx hb d_hh_entry_35 hl (by decide) rfl (fun ls hl => ?_)
        refine lv_iload hx hb d_hh_entry_37 (lv_at hl 0 rfl) ?_
        rcases sa_at (q := q0) (fun x hx1 => (ta_in hTA hx1).1) eL with ⟨e0, e1⟩ | ⟨hxR, e1⟩
        · refine lv_if_ne (tgt := 46) hx hb d_hh_entry_39 (by decide) (fun z9 => absurd (by rw [e0]; rfl) z9) (fun _ => ?_)
          refine lv_ldc2 hx hb hown (hts _ kk_hh_35) d_hh_entry_42 ?_
          exact cg_lret (u := ()) hQ hx hb hr hlk hK hP hD hS (by rw [hey, e1]; rfl) d_hh_entry_45
        · generalize sa q0 R = x at *
          have hxn := ta_in hTA hxR
          refine lv_if_ne (tgt := 46) hx hb d_hh_entry_39 (by decide) (fun _ => ?_) (fun z9 => absurd z9 (nI_ne0 hxn.1 (by omega)))
          refine lv_iload_n hx hb d_hh_entry_46 rfl (lv_at hl 5 rfl) ?_
          refine lv_if_ne (tgt := 62) hx hb d_hh_entry_47 (by decide) (fun _ => ?_) (fun z9 => absurd z9 h0)
          refine lv_aload hx hb d_hh_entry_62 (lv_at hl 1 rfl) ?_
          refine va_get (D := D) (ci := 0) (v := .ref qv) (C := R_tb) (T := F_tb) (N := 10) hx hb hts i_tb hown hK hP 2 rfl rfl 3 (by decide) (hts _ kf_hh_75) (fun _ h9 => h9) rfl d_hh_entry_64 ?_
          refine lv_iload hx hb d_hh_entry_67 (lv_at hl 0 rfl) ?_
          refine wa_ld (k := x) hx hb hK hP 4 0 rfl rfl hxn.2.2 hn d_hh_entry_69 ?_
          refine lv_i2l (v := (V x).toInt64) hx hb d_hh_entry_70 rfl ?_
          exact cg_lret (u := ()) hQ hx hb hr hlk hK hP hD hS (by rw [hey, e1, eyo_v h0]) d_hh_entry_71
      · refine lv_icmp_eq (tgt := 29) hx hb d_hh_entry_22 (by decide) (fun z9 => absurd z9 h1) (fun _ => ?_)
        refine lv_ldc2 hx hb hown (hts _ kk_hh_22) d_hh_entry_25 ?_
        exact cg_lret (u := ()) hQ hx hb hr hlk hK hP hD hS (by unfold ey; rw [if_pos (Or.inr (fun z9 => z9.elim h0 h1))]) d_hh_entry_28
set_option maxRecDepth 100000 in
set_option maxHeartbeats 4000000 in
theorem c_hh_entry_x (l : Launch) (D : va_G) (cI cT cP : ClassId) (h r : Nat) (q : Int32) (hq : bad q) (q0 w0 : Int32) : Cg l y_hh_entry b_hh_entry 6 (some .long) 1 0 0 D (ty3 cI cT cP) [.ref h, .int q, .int q0, .int w0] ([(h, .inr (1, [.ref r]))]) (fun (v : Option Value) (u : Unit) => v = some (.long 1099511627777)) (fun u => [(h, .inr (1, [.ref r]))]) := by
  refine cg_enter rfl (Nat.le_of_ble_eq_true rfl) ?_
  intro p e s m below meth c args hx hb hr hlk hml hown hin hts A hA hK hP hD hS ls hl Q hQ
  have hl : lv_has ls 6 [(0, .ref h), (1, .int q), (2, .int q0), (3, .int w0)] := hl
  have hP : va_P D cls ([(h, .inr (1, [.ref r]))]) s.heap := hP
  have hD : va_D A ([(h, .inr (1, [.ref r]))]) := hD
  refine lv_aload_n hx hb d_hh_entry_0 rfl (lv_at hl 0 rfl) ?_
  refine lv_iload_n hx hb d_hh_entry_1 rfl (lv_at hl 1 rfl) ?_
  refine cg_V (hn := 1) (As := [.int q]) (rest := []) (wr := []) (q0 := 0) (ci := 1) hx hb hml hown hts (c_hh_tableOf_x l D cI cT cP h r q hq) km_hh_18 ki_hh_tableOf ks_hh_tableOf kn_hh kc_hh_tableOf (by decide +kernel) rfl ⟨Nat.le_of_ble_eq_true rfl, Nat.le_of_ble_eq_true rfl⟩ hK hP hD hS hA [0] [] rfl (by decide) rfl (by decide) (by decide) rfl rfl hl.1 rfl (Nat.le_of_ble_eq_true rfl) d_hh_entry_2 ⟨Nat.zero_le _, Nat.zero_le _⟩ (fun v u H locs hpost hP hD hS => ?_)
  subst hpost
  refine W.eq (g2 := F0 m 5 ls [.null]) rfl ?_
  have hP : va_P D cls ([(h, .inr (1, [.ref r]))]) H := hP
  have hD : va_D A ([(h, .inr (1, [.ref r]))]) := hD
  refine lv_astoreN (lv' := [(4, .null), (0, .ref h), (1, .int q), (2, .int q0), (3, .int w0)]) hx hb d_hh_entry_5 hl (by decide) rfl (fun ls hl => ?_)
  refine lv_aloadN hx hb d_hh_entry_7 (lv_at hl 0 rfl) ?_
  refine lv_ifnullN (tgt := 25) hx hb d_hh_entry_9 (by decide) ?_
  refine lv_ldc2 hx hb hown (hts _ kk_hh_22) d_hh_entry_25 ?_
  exact cg_lret (u := ()) hQ hx hb hr hlk hK hP hD hS rfl d_hh_entry_28
