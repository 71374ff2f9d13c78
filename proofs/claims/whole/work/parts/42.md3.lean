-- HashHallModel (3): printed by wip/whole/gen/md3.py
theorem take_mid {A B : List Nat} {x : Nat} : (A ++ x :: B).take A.length = A ∧ (A ++ x :: B).drop (A.length + 1) = B := by
  refine ⟨by simp, ?_⟩
  rw [List.drop_append, List.drop_eq_nil_of_le (by omega)]
  have : A.length + 1 - A.length = 1 := by omega
  rw [this]
  rfl
theorem rk_mid {K : Nat → Int32} {A B : List Nat} {x : Nat} (hs : (A ++ x :: B).Pairwise (fun x y => K x < K y)) : rk K (K x) (A ++ x :: B) = A.length := by
  unfold rk
  rw [List.filter_append]
  have h := List.pairwise_append.mp hs
  have e1 : A.filter (fun y => decide (K y < K x)) = A := List.filter_eq_self.mpr (fun y hy => decide_eq_true (h.2.2 y hy x (List.mem_cons_self ..)))
  have e2 : (x :: B).filter (fun y => decide (K y < K x)) = [] := List.filter_eq_nil_iff.mpr (fun y hy => by
    rcases List.mem_cons.mp hy with rfl | hy
    · simp
    · have h3 := (List.pairwise_cons.mp h.2.1).1 y hy
      rw [Int32.lt_iff_toInt_lt] at h3
      simp only [decide_eq_true_eq, Int32.lt_iff_toInt_lt]
      omega)
  rw [e1, e2, List.append_nil]
theorem nd_cut {l1 l2 : List Nat} {x : Nat} (nd : (l1 ++ x :: l2).Nodup) : (l1 ++ x :: l2).filter (fun y => decide (y ≠ x)) = l1 ++ l2 := by
  obtain ⟨_, h2, h3⟩ := List.nodup_append.mp nd
  have n1 : x ∉ l1 := fun z => h3 x z x (List.mem_cons_self ..) rfl
  have n2 : x ∉ l2 := (List.nodup_cons.mp h2).1
  have e1 : l1.filter (fun y => decide (y ≠ x)) = l1 := List.filter_eq_self.mpr (fun y hy => decide_eq_true (fun z => n1 (by rw [← z]; exact hy)))
  have e2 : l2.filter (fun y => decide (y ≠ x)) = l2 := List.filter_eq_self.mpr (fun y hy => decide_eq_true (fun z => n2 (by rw [← z]; exact hy)))
  rw [List.filter_append, List.filter_cons_of_neg (by simp), e1, e2]
set_option maxRecDepth 100000 in
set_option maxHeartbeats 4000000 in
/-- sweep -/
theorem c_md_sweep (l : Launch) (D : va_G) (cI cT cP : ClassId) (h r : Nat) (ft : Nat → Option Nat) (km : Nat) (hkm : km < 3) (a : Nat) (hft : ft km = some a) (j : Nat) (L : List (Int32 × Int32)) (u0 : PB) (hL : PL j L u0) (d0 r0 : Int32) : Cg l y_md_sweep b_md_sweep 7 (some .int) 2 0 0 D (ty3 cI cT cP) [.ref h, .int (nI km), .int d0, .int r0] ([(h, .inr (3, [.ref r])), (r, .inl (cP, 3, .inr (.inr (.inr (.inr ft)))))] ++ (pw cI a j u0)) (fun (v : Option Value) (u : PB) => v = some (.int (swa d0 r0 L)) ∧ PL j (swl d0 r0 L) u) (fun u => [(h, .inr (3, [.ref r])), (r, .inl (cP, 3, .inr (.inr (.inr (.inr ft)))))] ++ (pw cI a j u)) := by
  obtain ⟨qs, qk, qv, qb, qn, Z, K, V, P, N, fr, mm, fi, la, R⟩ := u0
  obtain ⟨Fr, Sp, hPA, hPN, hPS, hsF, eL⟩ := hL
  have hPA : PA (2 ^ (4 + j)) j mm R Fr := hPA
  have hPN : PN P N fi la R := hPN
  have hPS : PS K Z R Sp := hPS
  have hsF : sg N fr Fr (-1) := hsF
  have eL : L = kv K V R := eL
  have hLl : L.length = R.length := by rw [eL]; exact List.length_map ..
  have hpn := pa_n hPA
  have hn : 2 ^ (4 + j) < 2 ^ 31 := by omega
  have hSl : Sp.length = R.length := hPS.1.length_eq
  have hin2 : ∀ x, x ∈ Sp → x < 2 ^ (4 + j) := fun x hx1 => (pa_in hPA (hPS.1.mem_iff.mp hx1)).2
  have hnd := ps_nd hPS
  refine cg_enter rfl (Nat.le_of_ble_eq_true rfl) ?_
  intro p e s m below meth c args hx hb hr hlk hml hown hin hts A hA hK hP hD hS ls hl Q hQ
  have hl : lv_has ls 7 [(0, .ref h), (1, .int (nI km)), (2, .int d0), (3, .int r0)] := hl
  have hP : va_P D cls ([(h, .inr (3, [.ref r])), (r, .inl (cP, 3, .inr (.inr (.inr (.inr ft)))))] ++ (px cI a qs qk qv qb qn (2 ^ (4 + j)) Z K V P N (nI R.length) fr (nI mm) fi la)) s.heap := hP
  have hD : va_D A ([(h, .inr (3, [.ref r])), (r, .inl (cP, 3, .inr (.inr (.inr (.inr ft)))))] ++ (px cI a qs qk qv qb qn (2 ^ (4 + j)) Z K V P N (nI R.length) fr (nI mm) fi la)) := hD
  refine lv_iload_n hx hb d_md_sweep_0 rfl (lv_at hl 1 rfl) ?_
  refine cg_S (hn := 1) (As := [.int (nI km)]) (rest := []) (wr := [(h, .inr (3, [.ref r])), (r, .inl (cP, 3, .inr (.inr (.inr (.inr ft)))))] ++ (px cI a qs qk qv qb qn (2 ^ (4 + j)) Z K V P N (nI R.length) fr (nI mm) fi la)) hx hb hml hown hts (c_md_isMap l D cI cT cP km hkm) km_md_20 kt_md_isMap kn_md kc_md_isMap (by decide +kernel) rfl ⟨Nat.le_of_ble_eq_true rfl, Nat.le_of_ble_eq_true rfl⟩ hK hP hD hS hA [] [0, 1, 2, 3, 4, 5, 6, 7] rfl (by decide) rfl (by decide) (by decide) hl.1 rfl (Nat.le_of_ble_eq_true rfl) d_md_sweep_1 ⟨Nat.zero_le _, Nat.zero_le _⟩ (fun v u H locs hpost hP hD hS => ?_)
  subst hpost
  refine W.eq (g2 := F0 m 4 ls [.int 1]) rfl ?_
  have hP : va_P D cls ([(h, .inr (3, [.ref r])), (r, .inl (cP, 3, .inr (.inr (.inr (.inr ft)))))] ++ (px cI a qs qk qv qb qn (2 ^ (4 + j)) Z K V P N (nI R.length) fr (nI mm) fi la)) H := hP
  have hD : va_D A ([(h, .inr (3, [.ref r])), (r, .inl (cP, 3, .inr (.inr (.inr (.inr ft)))))] ++ (px cI a qs qk qv qb qn (2 ^ (4 + j)) Z K V P N (nI R.length) fr (nI mm) fi la)) := hD
  refine lv_if_eq (tgt := 12) hx hb d_md_sweep_4 (by decide) (fun z9 => absurd z9 (by decide)) (fun _ => ?_)
  refine lv_iload_n hx hb d_md_sweep_7 rfl (lv_at hl 2 rfl) ?_
  refine lv_iconst (v := 1) hx hb d_md_sweep_8 (by decide) ?_
  by_cases h1 : 1 ≤ d0
  · refine lv_icmp_ge (tgt := 14) hx hb d_md_sweep_9 (by decide) (fun _ => ?_) (fun z9 => absurd h1 z9)
    have hd0 : ¬ d0 = 0 := fun z9 => by rw [z9] at h1; exact absurd h1 (by decide)
    refine lv_iconst (v := 0) hx hb d_md_sweep_14 (by decide) ?_
    refine lv_istore (lv' := [(4, .int 0), (0, .ref h), (1, .int (nI km)), (2, .int d0), (3, .int r0)]) hx hb d_md_sweep_15 hl (by decide) rfl (fun ls hl => ?_)
    refine lv_aload_n hx hb d_md_sweep_17 rfl (lv_at hl 1 rfl) ?_
    refine va_get (D := D) (ci := 3) (v := .ref r) (C := R_md) (T := F_md) (N := 1) hx hb hts i_md hown hK hP 0 rfl rfl 0 (by decide) (hts _ kf_md_12) (fun _ h9 => h9) rfl d_md_sweep_18 ?_
    refine lv_iload_n hx hb d_md_sweep_21 rfl (lv_at hl 2 rfl) ?_
    refine wa_ald (k := km) (b := a) hx hb hK hP 1 2 rfl rfl hkm (by decide) hft d_md_sweep_22 ?_
    refine va_get (D := D) (ci := 2) (v := .int (nI R.length)) (C := R_pr) (T := F_pr) (N := 10) hx hb hts i_pr hown hK hP 2 rfl rfl 5 (by decide) (hts _ kf_md_50) (fun _ h9 => h9) rfl d_md_sweep_23 ?_
    refine lv_iconst (v := 1) hx hb d_md_sweep_26 (by decide) ?_
    refine lv_isub hx hb d_md_sweep_27 ?_
    refine lv_istore (lv' := [(5, .int ((nI R.length) - 1)), (4, .int 0), (0, .ref h), (1, .int (nI km)), (2, .int d0), (3, .int r0)]) hx hb d_md_sweep_28 hl (by decide) rfl (fun ls hl => ?_)
    have loop : ∀ (cn : Nat) (S1 T Rc : List Nat) (Z P N : Nat → Int32) (fr fi la : Int32) (Fr : List Nat), S1.length = cn → Rc = R.filter (fun y => decide (¬ fm (K y) d0 = r0 ∨ y ∈ S1)) → PA (2 ^ (4 + j)) j mm Rc Fr → PN P N fi la Rc → PS K Z Rc (S1 ++ T) → sg N fr Fr (-1) → ∀ (H : Heap) (locs : List Loc), va_P D cls ([(h, .inr (3, [.ref r])), (r, .inl (cP, 3, .inr (.inr (.inr (.inr ft)))))] ++ (px cI a qs qk qv qb qn (2 ^ (4 + j)) Z K V P N (nI Rc.length) fr (nI mm) fi la)) H → va_D A ([(h, .inr (3, [.ref r])), (r, .inl (cP, 3, .inr (.inr (.inr (.inr ft)))))] ++ (px cI a qs qk qv qb qn (2 ^ (4 + j)) Z K V P N (nI Rc.length) fr (nI mm) fi la)) → va_S A s.heap H locs → ∀ ls : Array Slot, lv_has ls 7 [(0, .ref h), (1, .int (nI km)), (2, .int d0), (3, .int r0), (4, .int (nI (R.length - Rc.length))), (5, .int (nI cn - 1))] → W p l e (rmL 2 0 0) s m args below meth c H locs 0 0 Q (F0 m 30 ls []) := by
      clear hP hD hS
      intro cn
      induction cn with
      | zero =>
        intro S1 T Rc Z P N fr fi la Fr hS1 eRc hPA2 hPN hPS hsF H locs hP hD hS ls hl
        have e1 : S1 = [] := List.eq_nil_of_length_eq_zero hS1
        subst e1
        have esw : sw d0 r0 L = kv K V Rc := by
          rw [eL, sw_kv, eRc]
          congr 1
          exact List.filter_congr (fun y hy => by simp)
        have hle : (sw d0 r0 L).length = Rc.length := by rw [esw]; exact List.length_map ..
        have hl : lv_has ls 7 [(0, .ref h), (1, .int (nI km)), (2, .int d0), (3, .int r0), (4, .int (nI (R.length - Rc.length))), (5, .int (-1))] := hl
        refine lv_iload hx hb d_md_sweep_30 (lv_at hl 5 rfl) ?_
        refine lv_if_lt (tgt := 92) hx hb d_md_sweep_32 (by decide) (fun _ => ?_) (fun z9 => absurd m1_neg z9)
        refine lv_iload hx hb d_md_sweep_92 (lv_at hl 4 rfl) ?_
        exact cg_iret (u := (qs, qk, qv, qb, qn, Z, K, V, P, N, fr, mm, fi, la, Rc)) hQ hx hb hr hlk hK hP hD hS (⟨by unfold swa; rw [if_pos h1, hLl, hle], Fr, T, hPA2, hPN, hPS, hsF, by unfold swl; rw [if_pos h1]; exact esw⟩) d_md_sweep_94
      | succ cn ih =>
        intro S1 T Rc Z P N fr fi la Fr hS1 eRc hPA2 hPN hPS hsF H locs hP hD hS ls hl
        rcases List.eq_nil_or_concat S1 with rfl | ⟨A1, x, rfl⟩
        · exact absurd hS1 (by simp)
        rw [List.concat_eq_append] at *
        rw [nI_pred] at hl
        have hA1 : A1.length = cn := by simpa using hS1
        have hxS : x ∈ (A1 ++ [x]) ++ T := by simp
        have hxR := hPS.1.mem_iff.mp hxS
        have hxn := pa_in hPA2 hxR
        have hRle : Rc.length ≤ R.length := by rw [eRc]; exact List.length_filter_le ..
        have hlS : A1.length < ((A1 ++ [x]) ++ T).length := by simp only [List.length_append, List.length_cons, List.length_nil]; omega
        have hS2 : ((A1 ++ [x]) ++ T).length = Rc.length := hPS.1.length_eq
        have sZ : Z cn = nI x := by
          rw [← hA1, hPS.2.2 _ hlS]
          have e3 : (A1 ++ [x]) ++ T = A1 ++ x :: T := by simp
          rw [e3, getD_hd]
          rfl
        have hnA : x ∉ A1 := by
          have h9 := hPS.1.nodup_iff.mpr (pa_nd hPA2)
          have h8 := (List.nodup_append.mp h9).1
          exact fun z9 => (List.nodup_append.mp h8).2.2 x z9 x (List.mem_cons_self ..) rfl
        refine lv_iload hx hb d_md_sweep_30 (lv_at hl 5 rfl) ?_
        refine lv_if_lt (tgt := 92) hx hb d_md_sweep_32 (by decide) (fun z9 => absurd z9 (nI_pos (by omega))) (fun _ => ?_)
        refine lv_aload_n hx hb d_md_sweep_35 rfl (lv_at hl 0 rfl) ?_
        refine va_get (D := D) (ci := 3) (v := .ref r) (C := R_md) (T := F_md) (N := 1) hx hb hts i_md hown hK hP 0 rfl rfl 0 (by decide) (hts _ kf_md_12) (fun _ h9 => h9) rfl d_md_sweep_36 ?_
        refine lv_iload_n hx hb d_md_sweep_39 rfl (lv_at hl 1 rfl) ?_
        refine wa_ald (k := km) (b := a) hx hb hK hP 1 2 rfl rfl hkm (by decide) hft d_md_sweep_40 ?_
        refine va_get (D := D) (ci := 2) (v := .ref qs) (C := R_pr) (T := F_pr) (N := 10) hx hb hts i_pr hown hK hP 2 rfl rfl 0 (by decide) (hts _ kf_md_54) (fun _ h9 => h9) rfl d_md_sweep_41 ?_
        refine lv_iload hx hb d_md_sweep_44 (lv_at hl 5 rfl) ?_
        refine wa_ld (k := cn) hx hb hK hP 3 0 rfl rfl (by omega) hn d_md_sweep_46 ?_
        refine tp_i (y := nI x) sZ ?_
        refine lv_istore (lv' := [(6, .int (nI x)), (0, .ref h), (1, .int (nI km)), (2, .int d0), (3, .int r0), (4, .int (nI (R.length - Rc.length))), (5, .int (nI cn))]) hx hb d_md_sweep_47 hl (by decide) rfl (fun ls hl => ?_)
        refine lv_aload_n hx hb d_md_sweep_49 rfl (lv_at hl 1 rfl) ?_
        refine va_get (D := D) (ci := 3) (v := .ref r) (C := R_md) (T := F_md) (N := 1) hx hb hts i_md hown hK hP 0 rfl rfl 0 (by decide) (hts _ kf_md_12) (fun _ h9 => h9) rfl d_md_sweep_50 ?_
        refine lv_iload_n hx hb d_md_sweep_53 rfl (lv_at hl 2 rfl) ?_
        refine wa_ald (k := km) (b := a) hx hb hK hP 1 2 rfl rfl hkm (by decide) hft d_md_sweep_54 ?_
        refine va_get (D := D) (ci := 2) (v := .ref qk) (C := R_pr) (T := F_pr) (N := 10) hx hb hts i_pr hown hK hP 2 rfl rfl 1 (by decide) (hts _ kf_md_60) (fun _ h9 => h9) rfl d_md_sweep_55 ?_
        refine lv_iload hx hb d_md_sweep_58 (lv_at hl 0 rfl) ?_
        refine wa_ld (k := x) hx hb hK hP 4 0 rfl rfl hxn.2 hn d_md_sweep_60 ?_
        refine lv_iload_n hx hb d_md_sweep_61 rfl (lv_at hl 3 rfl) ?_
        refine cg_S (hn := 2) (As := [.int (K x), .int d0]) (rest := []) (wr := [(h, .inr (3, [.ref r])), (r, .inl (cP, 3, .inr (.inr (.inr (.inr ft)))))] ++ (px cI a qs qk qv qb qn (2 ^ (4 + j)) Z K V P N (nI Rc.length) fr (nI mm) fi la)) hx hb hml hown hts (c_jm_floorMod l D cI cT cP (K x) d0 hd0) km_md_75 kt_jm_floorMod kn_jm kc_jm_floorMod (by decide +kernel) rfl ⟨Nat.le_of_ble_eq_true rfl, Nat.le_of_ble_eq_true rfl⟩ hK hP hD hS hA [] [0, 1, 2, 3, 4, 5, 6, 7] rfl (by decide) rfl (by decide) (by decide) hl.1 rfl (Nat.le_of_ble_eq_true rfl) d_md_sweep_62 ⟨Nat.zero_le _, Nat.zero_le _⟩ (fun v u H locs hpost hP hD hS => ?_)
        subst hpost
        refine W.eq (g2 := F0 m 65 ls [.int (fm (K x) d0)]) rfl ?_
        have hP : va_P D cls ([(h, .inr (3, [.ref r])), (r, .inl (cP, 3, .inr (.inr (.inr (.inr ft)))))] ++ (px cI a qs qk qv qb qn (2 ^ (4 + j)) Z K V P N (nI Rc.length) fr (nI mm) fi la)) H := hP
        have hD : va_D A ([(h, .inr (3, [.ref r])), (r, .inl (cP, 3, .inr (.inr (.inr (.inr ft)))))] ++ (px cI a qs qk qv qb qn (2 ^ (4 + j)) Z K V P N (nI Rc.length) fr (nI mm) fi la)) := hD
        refine lv_iload_n hx hb d_md_sweep_65 rfl (lv_at hl 4 rfl) ?_
        refine lv_icmp_eq (tgt := 72) hx hb d_md_sweep_66 (by decide) (fun c1 => ?_) (fun c1 => ?_)
        · have e3 : (A1 ++ [x]) ++ T = A1 ++ x :: T := by simp
          rw [e3] at hPS
          obtain ⟨l1, l2, eR⟩ := List.append_of_mem hxR
          have hcut : l1 ++ l2 = R.filter (fun y => decide (¬ fm (K y) d0 = r0 ∨ y ∈ A1)) := by
            have nd9 : (l1 ++ x :: l2).Nodup := by rw [← eR]; exact pa_nd hPA2
            rw [← nd_cut nd9, ← eR, eRc, List.filter_filter]
            exact List.filter_congr (fun y hy => by
              by_cases h9 : y = x
              · subst h9; simp [c1, hnA]
              · simp [h9])
          clear eRc
          subst eR
          have hrm := rk_mid hPS.2.1
          refine lv_aload_n hx hb d_md_sweep_72 rfl (lv_at hl 1 rfl) ?_
          refine va_get (D := D) (ci := 3) (v := .ref r) (C := R_md) (T := F_md) (N := 1) hx hb hts i_md hown hK hP 0 rfl rfl 0 (by decide) (hts _ kf_md_12) (fun _ h9 => h9) rfl d_md_sweep_73 ?_
          refine lv_iload_n hx hb d_md_sweep_76 rfl (lv_at hl 2 rfl) ?_
          refine wa_ald (k := km) (b := a) hx hb hK hP 1 2 rfl rfl hkm (by decide) hft d_md_sweep_77 ?_
          refine lv_iload hx hb d_md_sweep_78 (lv_at hl 0 rfl) ?_
          refine cg_V (hn := 1) (As := [.int (nI x)]) (rest := []) (wr := [(h, .inr (3, [.ref r])), (r, .inl (cP, 3, .inr (.inr (.inr (.inr ft)))))]) (q0 := 0) (ci := 2) hx hb hml hown hts (c_pr_delete l D cI cT cP a qs qk qv qb qn (2 ^ (4 + j)) Z K V P N fr (nI mm) fi la j mm x l1 l2 Fr (A1 ++ x :: T) hPA2 hPN hPS hsF) km_md_47 ki_pr_delete ks_pr_delete kn_pr kc_pr_delete (by decide +kernel) rfl ⟨Nat.le_of_ble_eq_true rfl, Nat.le_of_ble_eq_true rfl⟩ hK hP hD hS hA [2, 3, 4, 5, 6, 7] [0, 1] rfl (by decide) rfl (by decide) (by decide) rfl rfl hl.1 rfl (Nat.le_of_ble_eq_true rfl) d_md_sweep_80 ⟨Nat.zero_le _, Nat.zero_le _⟩ (fun v u H locs hpost hP hD hS => ?_)
          obtain ⟨P2, N2, fi2, la2⟩ := u
          obtain ⟨e9, hPN2, hPS2, hsF2⟩ := hpost
          subst e9
          rw [hrm, take_mid.1, take_mid.2] at hPS2
          rw [hrm] at hP hD
          generalize va_cpy Z Z (A1.length + 1) A1.length ((A1 ++ x :: T).length - 1 - A1.length) = Z2 at *
          refine W.eq (g2 := F0 m 83 ls []) rfl ?_
          have hP : va_P D cls ([(h, .inr (3, [.ref r])), (r, .inl (cP, 3, .inr (.inr (.inr (.inr ft)))))] ++ (px cI a qs qk qv qb qn (2 ^ (4 + j)) Z2 K V P2 N2 (nI (l1 ++ l2).length) (nI x) (nI mm) fi2 la2)) H := hP
          have hD : va_D A ([(h, .inr (3, [.ref r])), (r, .inl (cP, 3, .inr (.inr (.inr (.inr ft)))))] ++ (px cI a qs qk qv qb qn (2 ^ (4 + j)) Z2 K V P2 N2 (nI (l1 ++ l2).length) (nI x) (nI mm) fi2 la2)) := hD
          have hin9 : nI (R.length - (l1 ++ x :: l2).length) + Int32.ofInt 1 = nI (R.length - (l1 ++ l2).length) := by
            have h8 : (l1 ++ x :: l2).length = (l1 ++ l2).length + 1 := by simp; omega
            rw [inc_n]
            congr 1
            omega
          refine lv_iinc (v := nI (R.length - (l1 ++ l2).length)) (lv' := [(4, .int (nI (R.length - (l1 ++ l2).length))), (6, .int (nI x)), (0, .ref h), (1, .int (nI km)), (2, .int d0), (3, .int r0), (5, .int (nI cn))]) hx hb d_md_sweep_83 hl (k := 5) rfl hin9 (by decide) rfl (fun ls hl => ?_)
          refine lv_iinc (v := nI cn - 1) (lv' := [(5, .int (nI cn - 1)), (4, .int (nI (R.length - (l1 ++ l2).length))), (6, .int (nI x)), (0, .ref h), (1, .int (nI km)), (2, .int d0), (3, .int r0)]) hx hb d_md_sweep_86 hl (k := 6) rfl (i_m1 cn) (by decide) rfl (fun ls hl => ?_)
          refine lv_goto (tgt := 30) hx hb d_md_sweep_89 (by decide) ?_
          exact ih A1 T (l1 ++ l2) Z2 P2 N2 (nI x) fi2 la2 (x :: Fr) hA1 hcut (pa_del hPA2) hPN2 hPS2 hsF2 _ _ hP hD hS ls (lv_sub hl [3, 4, 5, 6, 1, 0] rfl)
        · refine lv_goto (tgt := 86) hx hb d_md_sweep_69 (by decide) ?_
          refine lv_iinc (v := nI cn - 1) (lv' := [(5, .int (nI cn - 1)), (6, .int (nI x)), (0, .ref h), (1, .int (nI km)), (2, .int d0), (3, .int r0), (4, .int (nI (R.length - Rc.length)))]) hx hb d_md_sweep_86 hl (k := 6) rfl (i_m1 cn) (by decide) rfl (fun ls hl => ?_)
          refine lv_goto (tgt := 30) hx hb d_md_sweep_89 (by decide) ?_
          exact ih A1 (x :: T) Rc Z P N fr fi la Fr hA1 (by
              rw [eRc]
              exact List.filter_congr (fun y hy => by
                by_cases h9 : y = x
                · subst h9; simp [c1]
                · simp [h9])) hPA2 hPN (by simpa using hPS) hsF _ _ hP hD hS ls (lv_sub hl [2, 3, 4, 5, 6, 0] rfl)
    have eR0 : R = R.filter (fun y => decide (¬ fm (K y) d0 = r0 ∨ y ∈ Sp)) := (List.filter_eq_self.mpr (fun y hy => decide_eq_true (Or.inr (hPS.1.mem_iff.mpr hy)))).symm
    have e40 : (0 : Int32) = nI (R.length - R.length) := by rw [Nat.sub_self]; rfl
    rw [e40] at hl
    exact loop R.length Sp [] R Z P N fr fi la Fr hSl eR0 hPA hPN (by simpa using hPS) hsF _ _ hP hD hS ls (lv_sub hl [2, 3, 4, 5, 1, 0] rfl)
  · refine lv_icmp_ge (tgt := 14) hx hb d_md_sweep_9 (by decide) (fun z9 => absurd z9 h1) (fun _ => ?_)
    refine lv_iconst (v := (-1)) hx hb d_md_sweep_12 (by decide) ?_
    exact cg_iret (u := (qs, qk, qv, qb, qn, Z, K, V, P, N, fr, mm, fi, la, R)) hQ hx hb hr hlk hK hP hD hS (⟨by unfold swa; rw [if_neg h1], by unfold swl; rw [if_neg h1]; exact ⟨Fr, Sp, hPA, hPN, hPS, hsF, eL⟩⟩) d_md_sweep_13
set_option maxRecDepth 100000 in
set_option maxHeartbeats 4000000 in
theorem c_md_sweep_x (l : Launch) (D : va_G) (cI cT cP : ClassId) (h r : Nat) (q : Int32) (hq : bad q) (d0 r0 : Int32) : Cg l y_md_sweep b_md_sweep 7 (some .int) 2 0 0 D (ty3 cI cT cP) [.ref h, .int q, .int d0, .int r0] ([(h, .inr (3, [.ref r]))]) (fun (v : Option Value) (u : Unit) => v = some (.int (-1))) (fun u => [(h, .inr (3, [.ref r]))]) := by
  refine cg_enter rfl (Nat.le_of_ble_eq_true rfl) ?_
  intro p e s m below meth c args hx hb hr hlk hml hown hin hts A hA hK hP hD hS ls hl Q hQ
  have hl : lv_has ls 7 [(0, .ref h), (1, .int q), (2, .int d0), (3, .int r0)] := hl
  have hP : va_P D cls ([(h, .inr (3, [.ref r]))]) s.heap := hP
  have hD : va_D A ([(h, .inr (3, [.ref r]))]) := hD
  refine lv_iload_n hx hb d_md_sweep_0 rfl (lv_at hl 1 rfl) ?_
  refine cg_S (hn := 1) (As := [.int q]) (rest := []) (wr := [(h, .inr (3, [.ref r]))]) hx hb hml hown hts (c_md_isMap_x l D cI cT cP q hq) km_md_20 kt_md_isMap kn_md kc_md_isMap (by decide +kernel) rfl ⟨Nat.le_of_ble_eq_true rfl, Nat.le_of_ble_eq_true rfl⟩ hK hP hD hS hA [] [0] rfl (by decide) rfl (by decide) (by decide) hl.1 rfl (Nat.le_of_ble_eq_true rfl) d_md_sweep_1 ⟨Nat.zero_le _, Nat.zero_le _⟩ (fun v u H locs hpost hP hD hS => ?_)
  subst hpost
  refine W.eq (g2 := F0 m 4 ls [.int 0]) rfl ?_
  have hP : va_P D cls ([(h, .inr (3, [.ref r]))]) H := hP
  have hD : va_D A ([(h, .inr (3, [.ref r]))]) := hD
  refine lv_if_eq (tgt := 12) hx hb d_md_sweep_4 (by decide) (fun _ => ?_) (fun z9 => absurd rfl z9)
  refine lv_iconst (v := (-1)) hx hb d_md_sweep_12 (by decide) ?_
  exact cg_iret (u := ()) hQ hx hb hr hlk hK hP hD hS rfl d_md_sweep_13
