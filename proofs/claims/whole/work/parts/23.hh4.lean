-- HashHall (4): pour: printed by wip/whole/gen/hh4.py
/-- may k1 be poured into k2 -/
def po_ (k1 k2 : Nat) (L1 L2 : List (Int32 × Int32)) : Bool := decide (L1.length + L2.length ≤ 1400) && (decide (¬ k1 = 0) || (decide (k2 = 1) && hka L2 L1))
def pp (k1 k2 : Nat) (mv : Bool) (jl : Nat × List (Int32 × Int32)) (L1 : List (Int32 × Int32)) : Nat × List (Int32 × Int32) := if po_ k1 k2 L1 jl.2 then pj mv jl L1 else jl
def pa (k1 k2 : Nat) (mv : Bool) (jl : Nat × List (Int32 × Int32)) (L1 : List (Int32 × Int32)) : Int32 := if po_ k1 k2 L1 jl.2 then nI (pp k1 k2 mv jl L1).2.length else -1
set_option maxRecDepth 100000 in
set_option maxHeartbeats 4000000 in
/-- pour -/
theorem c_hh_pour (l : Launch) (D : va_G) (cI cT cP : ClassId) (h r : Nat) (ft : Nat → Option Nat) (k1 : Nat) (hk1 : k1 < 3) (a : Nat) (hf1 : ft k1 = some a) (k2 : Nat) (hk2 : k2 < 3) (a2 : Nat) (hf2 : ft k2 = some a2) (mv : Bool) (j : Nat) (L : List (Int32 × Int32)) (u0 : TB) (hL : TL j L u0) (mv2 : Bool) (j2 : Nat) (L2 : List (Int32 × Int32)) (u2 : TB) (hL2 : TL j2 L2 u2) (hne : ¬ k1 = k2) : Cg l y_hh_pour b_hh_pour 5 (some .int) 6 (mcT j2 (pp k1 k2 mv2 (j2, L2) L).1) (msT j2 (pp k1 k2 mv2 (j2, L2) L).1) D (ty3 cI cT cP) [.ref h, .int (nI k1), .int (nI k2)] ([(h, .inr (1, [.ref r])), (r, .inl (cT, 3, .inr (.inr (.inr (.inr ft)))))] ++ (tw cI a mv j u0) ++ (tw cI a2 mv2 j2 u2)) (fun (v : Option Value) (u : TB) => v = some (.int (pa k1 k2 mv2 (j2, L2) L)) ∧ TL (pp k1 k2 mv2 (j2, L2) L).1 (pp k1 k2 mv2 (j2, L2) L).2 u) (fun u => [(h, .inr (1, [.ref r])), (r, .inl (cT, 3, .inr (.inr (.inr (.inr ft)))))] ++ (tw cI a mv j u0) ++ (tw cI a2 mv2 ((pp k1 k2 mv2 (j2, L2) L).1) u)) := by
  obtain ⟨qk, qv, qb, qf, qh, qc, K, V, P, N, G, C, fl, mm, R⟩ := u0
  obtain ⟨Fr, bl, hTA, hTN, hTH, hKn, eL⟩ := hL
  have hTA : TA (2 ^ (4 + j)) j mm R Fr := hTA
  have hTN : TN P N R := hTN
  have hTH : TH (2 ^ (4 + j)) K G C fl R Fr bl := hTH
  have hKn : (R.map K).Nodup := hKn
  have eL : L = kv K V R := eL
  have hLl : L.length = R.length := by rw [eL]; exact List.length_map ..
  have hn : 2 ^ (4 + j) < 2 ^ 31 := (ta_len hTA).2.2
  have hRl : R.length < 2 ^ 31 := (ta_len hTA).2.1
  obtain ⟨qk2, qv2, qb2, qf2, qh2, qc2, K2, V2, P2, N2, G2, C2, fl2, mm2, R2⟩ := u2
  obtain ⟨Fr2, bl2, hTA2, hTN2, hTH2, hKn2, eL2⟩ := hL2
  have hTA2 : TA (2 ^ (4 + j2)) j2 mm2 R2 Fr2 := hTA2
  have hTN2 : TN P2 N2 R2 := hTN2
  have hTH2 : TH (2 ^ (4 + j2)) K2 G2 C2 fl2 R2 Fr2 bl2 := hTH2
  have hKn2 : (R2.map K2).Nodup := hKn2
  have eL2 : L2 = kv K2 V2 R2 := eL2
  have hLl2 : L2.length = R2.length := by rw [eL2]; exact List.length_map ..
  have hn2 : 2 ^ (4 + j2) < 2 ^ 31 := (ta_len hTA2).2.2
  have hRl2 : R2.length < 2 ^ 31 := (ta_len hTA2).2.1
  refine cg_enter rfl (Nat.le_of_ble_eq_true rfl) ?_
  intro p e s m below meth c args hx hb hr hlk hml hown hin hts A hA hK hP hD hS ls hl Q hQ
  have hl : lv_has ls 5 [(0, .ref h), (1, .int (nI k1)), (2, .int (nI k2))] := hl
  have hP : va_P D cls ([(h, .inr (1, [.ref r])), (r, .inl (cT, 3, .inr (.inr (.inr (.inr ft)))))] ++ (tx cI a (mvI mv) (nI R.length) qk qv qb qf qh qc (2 ^ (4 + j)) K V P N G C fl (nI mm)) ++ (tx cI a2 (mvI mv2) (nI R2.length) qk2 qv2 qb2 qf2 qh2 qc2 (2 ^ (4 + j2)) K2 V2 P2 N2 G2 C2 fl2 (nI mm2))) s.heap := hP
  have hD : va_D A ([(h, .inr (1, [.ref r])), (r, .inl (cT, 3, .inr (.inr (.inr (.inr ft)))))] ++ (tx cI a (mvI mv) (nI R.length) qk qv qb qf qh qc (2 ^ (4 + j)) K V P N G C fl (nI mm)) ++ (tx cI a2 (mvI mv2) (nI R2.length) qk2 qv2 qb2 qf2 qh2 qc2 (2 ^ (4 + j2)) K2 V2 P2 N2 G2 C2 fl2 (nI mm2))) := hD
  refine lv_aload_n hx hb d_hh_pour_0 rfl (lv_at hl 0 rfl) ?_
  refine lv_iload_n hx hb d_hh_pour_1 rfl (lv_at hl 1 rfl) ?_
  refine cg_V (hn := 1) (As := [.int (nI k1)]) (rest := []) (wr := (tx cI a (mvI mv) (nI R.length) qk qv qb qf qh qc (2 ^ (4 + j)) K V P N G C fl (nI mm)) ++ (tx cI a2 (mvI mv2) (nI R2.length) qk2 qv2 qb2 qf2 qh2 qc2 (2 ^ (4 + j2)) K2 V2 P2 N2 G2 C2 fl2 (nI mm2))) (q0 := 0) (ci := 1) hx hb hml hown hts (c_hh_tableOf l D cI cT cP h r ft k1 hk1 a hf1) km_hh_18 ki_hh_tableOf ks_hh_tableOf kn_hh kc_hh_tableOf (by decide +kernel) rfl ⟨Nat.le_of_ble_eq_true rfl, Nat.le_of_ble_eq_true rfl⟩ hK hP hD hS hA [0, 1] [2, 3, 4, 5, 6, 7, 8, 9, 10, 11, 12, 13, 14, 15] rfl (by decide) rfl (by decide) (by decide) rfl rfl hl.1 rfl (Nat.le_of_ble_eq_true rfl) d_hh_pour_2 ⟨Nat.zero_le _, Nat.zero_le _⟩ (fun v u H locs hpost hP hD hS => ?_)
  subst hpost
  refine W.eq (g2 := F0 m 5 ls [.ref a]) rfl ?_
  have hP : va_P D cls ((tx cI a (mvI mv) (nI R.length) qk qv qb qf qh qc (2 ^ (4 + j)) K V P N G C fl (nI mm)) ++ (tx cI a2 (mvI mv2) (nI R2.length) qk2 qv2 qb2 qf2 qh2 qc2 (2 ^ (4 + j2)) K2 V2 P2 N2 G2 C2 fl2 (nI mm2)) ++ [(h, .inr (1, [.ref r])), (r, .inl (cT, 3, .inr (.inr (.inr (.inr ft)))))]) H := hP
  have hD : va_D A ((tx cI a (mvI mv) (nI R.length) qk qv qb qf qh qc (2 ^ (4 + j)) K V P N G C fl (nI mm)) ++ (tx cI a2 (mvI mv2) (nI R2.length) qk2 qv2 qb2 qf2 qh2 qc2 (2 ^ (4 + j2)) K2 V2 P2 N2 G2 C2 fl2 (nI mm2)) ++ [(h, .inr (1, [.ref r])), (r, .inl (cT, 3, .inr (.inr (.inr (.inr ft)))))]) := hD
  have hP : va_P D cls ([(h, .inr (1, [.ref r])), (r, .inl (cT, 3, .inr (.inr (.inr (.inr ft)))))] ++ (tx cI a (mvI mv) (nI R.length) qk qv qb qf qh qc (2 ^ (4 + j)) K V P N G C fl (nI mm)) ++ (tx cI a2 (mvI mv2) (nI R2.length) qk2 qv2 qb2 qf2 qh2 qc2 (2 ^ (4 + j2)) K2 V2 P2 N2 G2 C2 fl2 (nI mm2))) H := hP.sub [14, 15, 0, 1, 2, 3, 4, 5, 6, 7, 8, 9, 10, 11, 12, 13] rfl
  have hD : va_D A ([(h, .inr (1, [.ref r])), (r, .inl (cT, 3, .inr (.inr (.inr (.inr ft)))))] ++ (tx cI a (mvI mv) (nI R.length) qk qv qb qf qh qc (2 ^ (4 + j)) K V P N G C fl (nI mm)) ++ (tx cI a2 (mvI mv2) (nI R2.length) qk2 qv2 qb2 qf2 qh2 qc2 (2 ^ (4 + j2)) K2 V2 P2 N2 G2 C2 fl2 (nI mm2))) := hD.sub [14, 15, 0, 1, 2, 3, 4, 5, 6, 7, 8, 9, 10, 11, 12, 13] (by decide) rfl
  refine lv_astore_n (lv' := [(3, .ref a), (0, .ref h), (1, .int (nI k1)), (2, .int (nI k2))]) hx hb d_hh_pour_5 rfl hl (by decide) rfl (fun ls hl => ?_)
  refine lv_aload_n hx hb d_hh_pour_6 rfl (lv_at hl 1 rfl) ?_
  refine lv_iload_n hx hb d_hh_pour_7 rfl (lv_at hl 3 rfl) ?_
  refine cg_V (hn := 1) (As := [.int (nI k2)]) (rest := []) (wr := (tx cI a (mvI mv) (nI R.length) qk qv qb qf qh qc (2 ^ (4 + j)) K V P N G C fl (nI mm)) ++ (tx cI a2 (mvI mv2) (nI R2.length) qk2 qv2 qb2 qf2 qh2 qc2 (2 ^ (4 + j2)) K2 V2 P2 N2 G2 C2 fl2 (nI mm2))) (q0 := 0) (ci := 1) hx hb hml hown hts (c_hh_tableOf l D cI cT cP h r ft k2 hk2 a2 hf2) km_hh_18 ki_hh_tableOf ks_hh_tableOf kn_hh kc_hh_tableOf (by decide +kernel) rfl ⟨Nat.le_of_ble_eq_true rfl, Nat.le_of_ble_eq_true rfl⟩ hK hP hD hS hA [0, 1] [2, 3, 4, 5, 6, 7, 8, 9, 10, 11, 12, 13, 14, 15] rfl (by decide) rfl (by decide) (by decide) rfl rfl hl.1 rfl (Nat.le_of_ble_eq_true rfl) d_hh_pour_8 ⟨Nat.zero_le _, Nat.zero_le _⟩ (fun v u H locs hpost hP hD hS => ?_)
  subst hpost
  refine W.eq (g2 := F0 m 11 ls [.ref a2]) rfl ?_
  have hP : va_P D cls ((tx cI a (mvI mv) (nI R.length) qk qv qb qf qh qc (2 ^ (4 + j)) K V P N G C fl (nI mm)) ++ (tx cI a2 (mvI mv2) (nI R2.length) qk2 qv2 qb2 qf2 qh2 qc2 (2 ^ (4 + j2)) K2 V2 P2 N2 G2 C2 fl2 (nI mm2)) ++ [(h, .inr (1, [.ref r])), (r, .inl (cT, 3, .inr (.inr (.inr (.inr ft)))))]) H := hP
  have hD : va_D A ((tx cI a (mvI mv) (nI R.length) qk qv qb qf qh qc (2 ^ (4 + j)) K V P N G C fl (nI mm)) ++ (tx cI a2 (mvI mv2) (nI R2.length) qk2 qv2 qb2 qf2 qh2 qc2 (2 ^ (4 + j2)) K2 V2 P2 N2 G2 C2 fl2 (nI mm2)) ++ [(h, .inr (1, [.ref r])), (r, .inl (cT, 3, .inr (.inr (.inr (.inr ft)))))]) := hD
  have hP : va_P D cls ([(h, .inr (1, [.ref r])), (r, .inl (cT, 3, .inr (.inr (.inr (.inr ft)))))] ++ (tx cI a (mvI mv) (nI R.length) qk qv qb qf qh qc (2 ^ (4 + j)) K V P N G C fl (nI mm)) ++ (tx cI a2 (mvI mv2) (nI R2.length) qk2 qv2 qb2 qf2 qh2 qc2 (2 ^ (4 + j2)) K2 V2 P2 N2 G2 C2 fl2 (nI mm2))) H := hP.sub [14, 15, 0, 1, 2, 3, 4, 5, 6, 7, 8, 9, 10, 11, 12, 13] rfl
  have hD : va_D A ([(h, .inr (1, [.ref r])), (r, .inl (cT, 3, .inr (.inr (.inr (.inr ft)))))] ++ (tx cI a (mvI mv) (nI R.length) qk qv qb qf qh qc (2 ^ (4 + j)) K V P N G C fl (nI mm)) ++ (tx cI a2 (mvI mv2) (nI R2.length) qk2 qv2 qb2 qf2 qh2 qc2 (2 ^ (4 + j2)) K2 V2 P2 N2 G2 C2 fl2 (nI mm2))) := hD.sub [14, 15, 0, 1, 2, 3, 4, 5, 6, 7, 8, 9, 10, 11, 12, 13] (by decide) rfl
  refine lv_astore (lv' := [(4, .ref a2), (3, .ref a), (0, .ref h), (1, .int (nI k1)), (2, .int (nI k2))]) hx hb d_hh_pour_11 hl (by decide) rfl (fun ls hl => ?_)
  refine lv_aload_n hx hb d_hh_pour_13 rfl (lv_at hl 1 rfl) ?_
  refine lv_ifnull hx hb d_hh_pour_14 ?_
  refine lv_aload hx hb d_hh_pour_17 (lv_at hl 0 rfl) ?_
  refine lv_ifnull hx hb d_hh_pour_19 ?_
  refine lv_iload_n hx hb d_hh_pour_22 rfl (lv_at hl 3 rfl) ?_
  refine lv_iload_n hx hb d_hh_pour_23 rfl (lv_at hl 4 rfl) ?_
  refine lv_icmp_ne (tgt := 29) hx hb d_hh_pour_24 (by decide) (fun _ => ?_) (fun z9 => absurd z9 (fun z9 => hne ((nI_eq (by omega) (by omega)).mp z9)))
  refine lv_aload_n hx hb d_hh_pour_29 rfl (lv_at hl 1 rfl) ?_
  refine va_get (D := D) (ci := 0) (v := .int (nI R.length)) (C := R_tb) (T := F_tb) (N := 10) hx hb hts i_tb hown hK hP 2 rfl rfl 1 (by decide) (hts _ kf_hh_51) (fun _ h9 => h9) rfl d_hh_pour_30 ?_
  refine lv_aload hx hb d_hh_pour_33 (lv_at hl 0 rfl) ?_
  refine va_get (D := D) (ci := 0) (v := .int (nI R2.length)) (C := R_tb) (T := F_tb) (N := 10) hx hb hts i_tb hown hK hP 9 rfl rfl 1 (by decide) (hts _ kf_hh_51) (fun _ h9 => h9) rfl d_hh_pour_35 ?_
  refine lv_iadd hx hb d_hh_pour_38 ?_
  refine tp_i (y := nI (R.length + R2.length)) (nI_add _ _) ?_
  refine lv_sipush (v := 1400) hx hb d_hh_pour_39 (by decide) ?_
  by_cases hc : R.length + R2.length ≤ 1400
  · refine lv_icmp_le (tgt := 47) hx hb d_hh_pour_42 (by decide) (fun _ => ?_) (fun z9 => absurd (nI_le (b := 1400) hc (by decide)) z9)
    refine lv_iload_n hx hb d_hh_pour_47 rfl (lv_at hl 3 rfl) ?_
    have hcd : decide (L.length + L2.length ≤ 1400) = true := decide_eq_true (by omega)
    by_cases hk0 : k1 = 0
    · refine lv_if_ne (tgt := 67) hx hb d_hh_pour_48 (by decide) (fun z9 => absurd (by rw [hk0]; rfl) z9) (fun _ => ?_)
      refine lv_iload_n hx hb d_hh_pour_51 rfl (lv_at hl 4 rfl) ?_
      refine lv_iconst (v := 1) hx hb d_hh_pour_52 (by decide) ?_
      by_cases hk3 : k2 = 1
      · refine lv_icmp_ne (tgt := 65) hx hb d_hh_pour_53 (by decide) (fun z9 => absurd (by rw [hk3]; rfl) z9) (fun _ => ?_)
        refine lv_aload hx hb d_hh_pour_56 (lv_at hl 0 rfl) ?_
        refine lv_aload_n hx hb d_hh_pour_58 rfl (lv_at hl 1 rfl) ?_
        refine cg_V (hn := 1) (As := [.ref a]) (rest := []) (wr := [(h, .inr (1, [.ref r])), (r, .inl (cT, 3, .inr (.inr (.inr (.inr ft)))))]) (q0 := 0) (ci := 0) hx hb hml hown hts (c_tb_holdsKeysOf l D cI cT cP a2 mv2 j2 L2 (qk2, qv2, qb2, qf2, qh2, qc2, K2, V2, P2, N2, G2, C2, fl2, mm2, R2) ⟨Fr2, bl2, hTA2, hTN2, hTH2, hKn2, eL2⟩ a mv j L (qk, qv, qb, qf, qh, qc, K, V, P, N, G, C, fl, mm, R) ⟨Fr, bl, hTA, hTN, hTH, hKn, eL⟩) km_hh_59 ki_tb_holdsKeysOf ks_tb_holdsKeysOf kn_tb kc_tb_holdsKeysOf (by decide +kernel) rfl ⟨Nat.le_of_ble_eq_true rfl, Nat.le_of_ble_eq_true rfl⟩ hK hP hD hS hA [9, 10, 11, 12, 13, 14, 15, 2, 3, 4, 5, 6, 7, 8] [0, 1] rfl (by decide) rfl (by decide) (by decide) rfl rfl hl.1 rfl (Nat.le_of_ble_eq_true rfl) d_hh_pour_59 ⟨Nat.zero_le _, Nat.zero_le _⟩ (fun v u H locs hpost hP hD hS => ?_)
        subst hpost
        refine W.eq (g2 := F0 m 62 ls [.int (zI (hka L2 L))]) rfl ?_
        have hP : va_P D cls ([(h, .inr (1, [.ref r])), (r, .inl (cT, 3, .inr (.inr (.inr (.inr ft)))))] ++ (tx cI a (mvI mv) (nI R.length) qk qv qb qf qh qc (2 ^ (4 + j)) K V P N G C fl (nI mm)) ++ (tx cI a2 (mvI mv2) (nI R2.length) qk2 qv2 qb2 qf2 qh2 qc2 (2 ^ (4 + j2)) K2 V2 P2 N2 G2 C2 fl2 (nI mm2))) H := hP
        have hD : va_D A ([(h, .inr (1, [.ref r])), (r, .inl (cT, 3, .inr (.inr (.inr (.inr ft)))))] ++ (tx cI a (mvI mv) (nI R.length) qk qv qb qf qh qc (2 ^ (4 + j)) K V P N G C fl (nI mm)) ++ (tx cI a2 (mvI mv2) (nI R2.length) qk2 qv2 qb2 qf2 qh2 qc2 (2 ^ (4 + j2)) K2 V2 P2 N2 G2 C2 fl2 (nI mm2))) := hD
        generalize hbb : hka L2 L = bb
        cases bb with
        | false =>
          refine lv_if_ne (tgt := 67) hx hb d_hh_pour_62 (by decide) (fun z9 => absurd rfl z9) (fun _ => ?_)
          have hpo : po_ k1 k2 L L2 = false := by unfold po_; rw [hbb]; simp [hk0]
          have ep : pp k1 k2 mv2 (j2, L2) L = (j2, L2) := by unfold pp; rw [show po_ k1 k2 L (j2, L2).2 = false from hpo]; rfl
          refine lv_iconst (v := (-1)) hx hb d_hh_pour_65 (by decide) ?_
          refine W.widen (k := mcT j2 (pp k1 k2 mv2 (j2, L2) L).1) (n := msT j2 (pp k1 k2 mv2 (j2, L2) L).1) (Nat.zero_le _) (Nat.zero_le _) ?_
          have hP : va_P D cls ([(h, .inr (1, [.ref r])), (r, .inl (cT, 3, .inr (.inr (.inr (.inr ft)))))] ++ (tx cI a (mvI mv) (nI R.length) qk qv qb qf qh qc (2 ^ (4 + j)) K V P N G C fl (nI mm)) ++ (tw cI a2 mv2 (pp k1 k2 mv2 (j2, L2) L).1 (qk2, qv2, qb2, qf2, qh2, qc2, K2, V2, P2, N2, G2, C2, fl2, mm2, R2))) H := by rw [ep]; exact hP
          have hD : va_D A ([(h, .inr (1, [.ref r])), (r, .inl (cT, 3, .inr (.inr (.inr (.inr ft)))))] ++ (tx cI a (mvI mv) (nI R.length) qk qv qb qf qh qc (2 ^ (4 + j)) K V P N G C fl (nI mm)) ++ (tw cI a2 mv2 (pp k1 k2 mv2 (j2, L2) L).1 (qk2, qv2, qb2, qf2, qh2, qc2, K2, V2, P2, N2, G2, C2, fl2, mm2, R2))) := by rw [ep]; exact hD
          exact cg_iret (u := (qk2, qv2, qb2, qf2, qh2, qc2, K2, V2, P2, N2, G2, C2, fl2, mm2, R2)) hQ hx hb hr hlk hK hP hD hS (⟨by unfold pa; rw [show po_ k1 k2 L (j2, L2).2 = false from hpo]; rfl, by rw [ep]; exact ⟨Fr2, bl2, hTA2, hTN2, hTH2, hKn2, eL2⟩⟩) d_hh_pour_66
        | true =>
          refine lv_if_ne (tgt := 67) hx hb d_hh_pour_62 (by decide) (fun _ => ?_) (fun z9 => absurd z9 (by decide))
          have hpo : po_ k1 k2 L L2 = true := by unfold po_; rw [hcd, hbb]; simp [hk3]
          have ep : pp k1 k2 mv2 (j2, L2) L = pj mv2 (j2, L2) L := by unfold pp; rw [show po_ k1 k2 L (j2, L2).2 = true from hpo]; rfl
          refine lv_aload hx hb d_hh_pour_67 (lv_at hl 0 rfl) ?_
          refine lv_aload_n hx hb d_hh_pour_69 rfl (lv_at hl 1 rfl) ?_
          refine cg_V (hn := 1) (As := [.ref a]) (rest := []) (wr := [(h, .inr (1, [.ref r])), (r, .inl (cT, 3, .inr (.inr (.inr (.inr ft)))))]) (q0 := 0) (ci := 0) hx hb hml hown hts (c_tb_storeAllOf l D cI cT cP a2 mv2 j2 L2 (qk2, qv2, qb2, qf2, qh2, qc2, K2, V2, P2, N2, G2, C2, fl2, mm2, R2) ⟨Fr2, bl2, hTA2, hTN2, hTH2, hKn2, eL2⟩ a mv j L (qk, qv, qb, qf, qh, qc, K, V, P, N, G, C, fl, mm, R) ⟨Fr, bl, hTA, hTN, hTH, hKn, eL⟩ (by omega)) km_hh_63 ki_tb_storeAllOf ks_tb_storeAllOf kn_tb kc_tb_storeAllOf (by decide +kernel) rfl ⟨Nat.le_of_ble_eq_true rfl, Nat.le_of_ble_eq_true rfl⟩ hK hP hD hS hA [9, 10, 11, 12, 13, 14, 15, 2, 3, 4, 5, 6, 7, 8] [0, 1] rfl (by decide) rfl (by decide) (by decide) rfl rfl hl.1 rfl (Nat.le_of_ble_eq_true rfl) d_hh_pour_70 ⟨Nat.le_of_eq (by show 0 + mcT j2 (pj mv2 (j2, L2) L).1 = mcT j2 (pp k1 k2 mv2 (j2, L2) L).1; rw [ep, Nat.zero_add]), Nat.le_of_eq (by show 0 + msT j2 (pj mv2 (j2, L2) L).1 = msT j2 (pp k1 k2 mv2 (j2, L2) L).1; rw [ep, Nat.zero_add])⟩ (fun v u H locs hpost hP hD hS => ?_)
          obtain ⟨e9, hT3⟩ := hpost
          subst e9
          rw [← ep] at hP hD hT3
          refine W.eq (g2 := F0 m 73 ls []) rfl ?_
          have hP : va_P D cls ([(h, .inr (1, [.ref r])), (r, .inl (cT, 3, .inr (.inr (.inr (.inr ft)))))] ++ (tx cI a (mvI mv) (nI R.length) qk qv qb qf qh qc (2 ^ (4 + j)) K V P N G C fl (nI mm)) ++ (tw cI a2 mv2 ((pp k1 k2 mv2 (j2, L2) L).1) u)) H := hP
          have hD : va_D A ([(h, .inr (1, [.ref r])), (r, .inl (cT, 3, .inr (.inr (.inr (.inr ft)))))] ++ (tx cI a (mvI mv) (nI R.length) qk qv qb qf qh qc (2 ^ (4 + j)) K V P N G C fl (nI mm)) ++ (tw cI a2 mv2 ((pp k1 k2 mv2 (j2, L2) L).1) u)) := hD
          refine W.widen (k := mcT j2 (pp k1 k2 mv2 (j2, L2) L).1) (n := msT j2 (pp k1 k2 mv2 (j2, L2) L).1) (Nat.le_of_eq (by rw [ep]; simp)) (Nat.le_of_eq (by rw [ep]; simp)) ?_
          obtain ⟨qk3, qv3, qb3, qf3, qh3, qc3, K3, V3, P3, N3, G3, C3, fl3, mm3, R3⟩ := u
          obtain ⟨Fr3, bl3, hTA3, hTN3, hTH3, hKn3, eL3⟩ := hT3
          have hTA3 : TA (2 ^ (4 + ((pp k1 k2 mv2 (j2, L2) L).1))) ((pp k1 k2 mv2 (j2, L2) L).1) mm3 R3 Fr3 := hTA3
          have hTN3 : TN P3 N3 R3 := hTN3
          have hTH3 : TH (2 ^ (4 + ((pp k1 k2 mv2 (j2, L2) L).1))) K3 G3 C3 fl3 R3 Fr3 bl3 := hTH3
          have hKn3 : (R3.map K3).Nodup := hKn3
          have eL3 : ((pp k1 k2 mv2 (j2, L2) L).2) = kv K3 V3 R3 := eL3
          have hLl3 : ((pp k1 k2 mv2 (j2, L2) L).2).length = R3.length := by rw [eL3]; exact List.length_map ..
          have hn3 : 2 ^ (4 + ((pp k1 k2 mv2 (j2, L2) L).1)) < 2 ^ 31 := (ta_len hTA3).2.2
          have hRl3 : R3.length < 2 ^ 31 := (ta_len hTA3).2.1
          have hP : va_P D cls ([(h, .inr (1, [.ref r])), (r, .inl (cT, 3, .inr (.inr (.inr (.inr ft)))))] ++ (tx cI a (mvI mv) (nI R.length) qk qv qb qf qh qc (2 ^ (4 + j)) K V P N G C fl (nI mm)) ++ (tx cI a2 (mvI mv2) (nI R3.length) qk3 qv3 qb3 qf3 qh3 qc3 (2 ^ (4 + (pp k1 k2 mv2 (j2, L2) L).1)) K3 V3 P3 N3 G3 C3 fl3 (nI mm3))) H := hP
          have hD : va_D A ([(h, .inr (1, [.ref r])), (r, .inl (cT, 3, .inr (.inr (.inr (.inr ft)))))] ++ (tx cI a (mvI mv) (nI R.length) qk qv qb qf qh qc (2 ^ (4 + j)) K V P N G C fl (nI mm)) ++ (tx cI a2 (mvI mv2) (nI R3.length) qk3 qv3 qb3 qf3 qh3 qc3 (2 ^ (4 + (pp k1 k2 mv2 (j2, L2) L).1)) K3 V3 P3 N3 G3 C3 fl3 (nI mm3))) := hD
          refine lv_aload hx hb d_hh_pour_73 (lv_at hl 0 rfl) ?_
          refine va_get (D := D) (ci := 0) (v := .int (nI R3.length)) (C := R_tb) (T := F_tb) (N := 10) hx hb hts i_tb hown hK hP 9 rfl rfl 1 (by decide) (hts _ kf_hh_51) (fun _ h9 => h9) rfl d_hh_pour_75 ?_
          exact cg_iret (u := (qk3, qv3, qb3, qf3, qh3, qc3, K3, V3, P3, N3, G3, C3, fl3, mm3, R3)) hQ hx hb hr hlk hK hP hD hS (⟨by unfold pa; rw [show po_ k1 k2 L (j2, L2).2 = true from hpo, ← hLl3]; rfl, ⟨Fr3, bl3, hTA3, hTN3, hTH3, hKn3, eL3⟩⟩) d_hh_pour_78
      · refine lv_icmp_ne (tgt := 65) hx hb d_hh_pour_53 (by decide) (fun _ => ?_) (fun z9 => absurd z9 (fun z9 => hk3 ((nI_eq (b := 1) (by omega) (by decide)).mp z9)))
        have hpo : po_ k1 k2 L L2 = false := by unfold po_; simp [hk0, hk3]
        have ep : pp k1 k2 mv2 (j2, L2) L = (j2, L2) := by unfold pp; rw [show po_ k1 k2 L (j2, L2).2 = false from hpo]; rfl
        refine lv_iconst (v := (-1)) hx hb d_hh_pour_65 (by decide) ?_
        refine W.widen (k := mcT j2 (pp k1 k2 mv2 (j2, L2) L).1) (n := msT j2 (pp k1 k2 mv2 (j2, L2) L).1) (Nat.zero_le _) (Nat.zero_le _) ?_
        have hP : va_P D cls ([(h, .inr (1, [.ref r])), (r, .inl (cT, 3, .inr (.inr (.inr (.inr ft)))))] ++ (tx cI a (mvI mv) (nI R.length) qk qv qb qf qh qc (2 ^ (4 + j)) K V P N G C fl (nI mm)) ++ (tw cI a2 mv2 (pp k1 k2 mv2 (j2, L2) L).1 (qk2, qv2, qb2, qf2, qh2, qc2, K2, V2, P2, N2, G2, C2, fl2, mm2, R2))) H := by rw [ep]; exact hP
        have hD : va_D A ([(h, .inr (1, [.ref r])), (r, .inl (cT, 3, .inr (.inr (.inr (.inr ft)))))] ++ (tx cI a (mvI mv) (nI R.length) qk qv qb qf qh qc (2 ^ (4 + j)) K V P N G C fl (nI mm)) ++ (tw cI a2 mv2 (pp k1 k2 mv2 (j2, L2) L).1 (qk2, qv2, qb2, qf2, qh2, qc2, K2, V2, P2, N2, G2, C2, fl2, mm2, R2))) := by rw [ep]; exact hD
        exact cg_iret (u := (qk2, qv2, qb2, qf2, qh2, qc2, K2, V2, P2, N2, G2, C2, fl2, mm2, R2)) hQ hx hb hr hlk hK hP hD hS (⟨by unfold pa; rw [show po_ k1 k2 L (j2, L2).2 = false from hpo]; rfl, by rw [ep]; exact ⟨Fr2, bl2, hTA2, hTN2, hTH2, hKn2, eL2⟩⟩) d_hh_pour_66
    · refine lv_if_ne (tgt := 67) hx hb d_hh_pour_48 (by decide) (fun _ => ?_) (fun z9 => absurd z9 (nI_ne0 (by omega) (by omega)))
      have hpo : po_ k1 k2 L L2 = true := by unfold po_; rw [hcd]; simp [hk0]
      have ep : pp k1 k2 mv2 (j2, L2) L = pj mv2 (j2, L2) L := by unfold pp; rw [show po_ k1 k2 L (j2, L2).2 = true from hpo]; rfl
      refine lv_aload hx hb d_hh_pour_67 (lv_at hl 0 rfl) ?_
      refine lv_aload_n hx hb d_hh_pour_69 rfl (lv_at hl 1 rfl) ?_
      refine cg_V (hn := 1) (As := [.ref a]) (rest := []) (wr := [(h, .inr (1, [.ref r])), (r, .inl (cT, 3, .inr (.inr (.inr (.inr ft)))))]) (q0 := 0) (ci := 0) hx hb hml hown hts (c_tb_storeAllOf l D cI cT cP a2 mv2 j2 L2 (qk2, qv2, qb2, qf2, qh2, qc2, K2, V2, P2, N2, G2, C2, fl2, mm2, R2) ⟨Fr2, bl2, hTA2, hTN2, hTH2, hKn2, eL2⟩ a mv j L (qk, qv, qb, qf, qh, qc, K, V, P, N, G, C, fl, mm, R) ⟨Fr, bl, hTA, hTN, hTH, hKn, eL⟩ (by omega)) km_hh_63 ki_tb_storeAllOf ks_tb_storeAllOf kn_tb kc_tb_storeAllOf (by decide +kernel) rfl ⟨Nat.le_of_ble_eq_true rfl, Nat.le_of_ble_eq_true rfl⟩ hK hP hD hS hA [9, 10, 11, 12, 13, 14, 15, 2, 3, 4, 5, 6, 7, 8] [0, 1] rfl (by decide) rfl (by decide) (by decide) rfl rfl hl.1 rfl (Nat.le_of_ble_eq_true rfl) d_hh_pour_70 ⟨Nat.le_of_eq (by show 0 + mcT j2 (pj mv2 (j2, L2) L).1 = mcT j2 (pp k1 k2 mv2 (j2, L2) L).1; rw [ep, Nat.zero_add]), Nat.le_of_eq (by show 0 + msT j2 (pj mv2 (j2, L2) L).1 = msT j2 (pp k1 k2 mv2 (j2, L2) L).1; rw [ep, Nat.zero_add])⟩ (fun v u H locs hpost hP hD hS => ?_)
      obtain ⟨e9, hT3⟩ := hpost
      subst e9
      rw [← ep] at hP hD hT3
      refine W.eq (g2 := F0 m 73 ls []) rfl ?_
      have hP : va_P D cls ([(h, .inr (1, [.ref r])), (r, .inl (cT, 3, .inr (.inr (.inr (.inr ft)))))] ++ (tx cI a (mvI mv) (nI R.length) qk qv qb qf qh qc (2 ^ (4 + j)) K V P N G C fl (nI mm)) ++ (tw cI a2 mv2 ((pp k1 k2 mv2 (j2, L2) L).1) u)) H := hP
      have hD : va_D A ([(h, .inr (1, [.ref r])), (r, .inl (cT, 3, .inr (.inr (.inr (.inr ft)))))] ++ (tx cI a (mvI mv) (nI R.length) qk qv qb qf qh qc (2 ^ (4 + j)) K V P N G C fl (nI mm)) ++ (tw cI a2 mv2 ((pp k1 k2 mv2 (j2, L2) L).1) u)) := hD
      refine W.widen (k := mcT j2 (pp k1 k2 mv2 (j2, L2) L).1) (n := msT j2 (pp k1 k2 mv2 (j2, L2) L).1) (Nat.le_of_eq (by rw [ep]; simp)) (Nat.le_of_eq (by rw [ep]; simp)) ?_
      obtain ⟨qk3, qv3, qb3, qf3, qh3, qc3, K3, V3, P3, N3, G3, C3, fl3, mm3, R3⟩ := u
      obtain ⟨Fr3, bl3, hTA3, hTN3, hTH3, hKn3, eL3⟩ := hT3
      have hTA3 : TA (2 ^ (4 + ((pp k1 k2 mv2 (j2, L2) L).1))) ((pp k1 k2 mv2 (j2, L2) L).1) mm3 R3 Fr3 := hTA3
      have hTN3 : TN P3 N3 R3 := hTN3
      have hTH3 : TH (2 ^ (4 + ((pp k1 k2 mv2 (j2, L2) L).1))) K3 G3 C3 fl3 R3 Fr3 bl3 := hTH3
      have hKn3 : (R3.map K3).Nodup := hKn3
      have eL3 : ((pp k1 k2 mv2 (j2, L2) L).2) = kv K3 V3 R3 := eL3
      have hLl3 : ((pp k1 k2 mv2 (j2, L2) L).2).length = R3.length := by rw [eL3]; exact List.length_map ..
      have hn3 : 2 ^ (4 + ((pp k1 k2 mv2 (j2, L2) L).1)) < 2 ^ 31 := (ta_len hTA3).2.2
      have hRl3 : R3.length < 2 ^ 31 := (ta_len hTA3).2.1
      have hP : va_P D cls ([(h, .inr (1, [.ref r])), (r, .inl (cT, 3, .inr (.inr (.inr (.inr ft)))))] ++ (tx cI a (mvI mv) (nI R.length) qk qv qb qf qh qc (2 ^ (4 + j)) K V P N G C fl (nI mm)) ++ (tx cI a2 (mvI mv2) (nI R3.length) qk3 qv3 qb3 qf3 qh3 qc3 (2 ^ (4 + (pp k1 k2 mv2 (j2, L2) L).1)) K3 V3 P3 N3 G3 C3 fl3 (nI mm3))) H := hP
      have hD : va_D A ([(h, .inr (1, [.ref r])), (r, .inl (cT, 3, .inr (.inr (.inr (.inr ft)))))] ++ (tx cI a (mvI mv) (nI R.length) qk qv qb qf qh qc (2 ^ (4 + j)) K V P N G C fl (nI mm)) ++ (tx cI a2 (mvI mv2) (nI R3.length) qk3 qv3 qb3 qf3 qh3 qc3 (2 ^ (4 + (pp k1 k2 mv2 (j2, L2) L).1)) K3 V3 P3 N3 G3 C3 fl3 (nI mm3))) := hD
      refine lv_aload hx hb d_hh_pour_73 (lv_at hl 0 rfl) ?_
      refine va_get (D := D) (ci := 0) (v := .int (nI R3.length)) (C := R_tb) (T := F_tb) (N := 10) hx hb hts i_tb hown hK hP 9 rfl rfl 1 (by decide) (hts _ kf_hh_51) (fun _ h9 => h9) rfl d_hh_pour_75 ?_
      exact cg_iret (u := (qk3, qv3, qb3, qf3, qh3, qc3, K3, V3, P3, N3, G3, C3, fl3, mm3, R3)) hQ hx hb hr hlk hK hP hD hS (⟨by unfold pa; rw [show po_ k1 k2 L (j2, L2).2 = true from hpo, ← hLl3]; rfl, ⟨Fr3, bl3, hTA3, hTN3, hTH3, hKn3, eL3⟩⟩) d_hh_pour_78
  · refine lv_icmp_le (tgt := 47) hx hb d_hh_pour_42 (by decide) (fun z9 => absurd z9 (fun z9 => hc ((nI_leI (b := 1400) (by have := ta_n hTA; have := ta_n hTA2; have := ta_len hTA; have := ta_len hTA2; omega) (by decide)).mp z9))) (fun _ => ?_)
    have hpo : po_ k1 k2 L L2 = false := by unfold po_; rw [decide_eq_false (by omega)]; rfl
    have ep : pp k1 k2 mv2 (j2, L2) L = (j2, L2) := by unfold pp; rw [show po_ k1 k2 L (j2, L2).2 = false from hpo]; rfl
    refine lv_iconst (v := (-1)) hx hb d_hh_pour_45 (by decide) ?_
    refine W.widen (k := mcT j2 (pp k1 k2 mv2 (j2, L2) L).1) (n := msT j2 (pp k1 k2 mv2 (j2, L2) L).1) (Nat.zero_le _) (Nat.zero_le _) ?_
    have hP : va_P D cls ([(h, .inr (1, [.ref r])), (r, .inl (cT, 3, .inr (.inr (.inr (.inr ft)))))] ++ (tx cI a (mvI mv) (nI R.length) qk qv qb qf qh qc (2 ^ (4 + j)) K V P N G C fl (nI mm)) ++ (tw cI a2 mv2 (pp k1 k2 mv2 (j2, L2) L).1 (qk2, qv2, qb2, qf2, qh2, qc2, K2, V2, P2, N2, G2, C2, fl2, mm2, R2))) H := by rw [ep]; exact hP
    have hD : va_D A ([(h, .inr (1, [.ref r])), (r, .inl (cT, 3, .inr (.inr (.inr (.inr ft)))))] ++ (tx cI a (mvI mv) (nI R.length) qk qv qb qf qh qc (2 ^ (4 + j)) K V P N G C fl (nI mm)) ++ (tw cI a2 mv2 (pp k1 k2 mv2 (j2, L2) L).1 (qk2, qv2, qb2, qf2, qh2, qc2, K2, V2, P2, N2, G2, C2, fl2, mm2, R2))) := by rw [ep]; exact hD
    exact cg_iret (u := (qk2, qv2, qb2, qf2, qh2, qc2, K2, V2, P2, N2, G2, C2, fl2, mm2, R2)) hQ hx hb hr hlk hK hP hD hS (⟨by unfold pa; rw [show po_ k1 k2 L (j2, L2).2 = false from hpo]; rfl, by rw [ep]; exact ⟨Fr2, bl2, hTA2, hTN2, hTH2, hKn2, eL2⟩⟩) d_hh_pour_46
