-- HashHallModel (1): printed by wip/whole/gen/md1.py
def njrs (j : Nat) (k : Int32) (L : List (Int32 × Int32)) : Nat := match lk k L with
  | none => njr j L.length
  | some _ => j
set_option maxRecDepth 100000 in
set_option maxHeartbeats 4000000 in
/-- isMap -/
theorem c_md_isMap (l : Launch) (D : va_G) (cI cT cP : ClassId) (km : Nat) (hkm : km < 3) : Cg l y_md_isMap b_md_isMap 1 (some .boolean) 0 0 0 D (ty3 cI cT cP) [.int (nI km)] ([]) (fun (v : Option Value) (u : Unit) => v = some (.int 1)) (fun u => []) := by
  refine cg_enter rfl (Nat.le_of_ble_eq_true rfl) ?_
  intro p e s m below meth c args hx hb hr hlk hml hown hin hts A hA hK hP hD hS ls hl Q hQ
  have hl : lv_has ls 1 [(0, .int (nI km))] := hl
  have hP : va_P D cls ([]) s.heap := hP
  have hD : va_D A ([]) := hD
  refine lv_iload_n hx hb d_md_isMap_0 rfl (lv_at hl 0 rfl) ?_
  refine lv_if_lt (tgt := 13) hx hb d_md_isMap_1 (by decide) (fun z9 => absurd z9 (nI_pos (by omega))) (fun _ => ?_)
  refine lv_iload_n hx hb d_md_isMap_4 rfl (lv_at hl 0 rfl) ?_
  refine lv_iconst (v := 2) hx hb d_md_isMap_5 (by decide) ?_
  refine lv_icmp_gt (tgt := 13) hx hb d_md_isMap_6 (by decide) (fun z9 => absurd z9 (fun z9 => absurd ((nI_ltI (a := 2) (b := km) (by decide) (by omega)).mp z9) (by omega))) (fun _ => ?_)
  refine lv_iconst (v := 1) hx hb d_md_isMap_9 (by decide) ?_
  refine lv_goto (tgt := 14) hx hb d_md_isMap_10 (by decide) ?_
  exact cg_zret (u := ()) hQ hx hb hr hlk hK hP hD hS rfl rfl d_md_isMap_14
set_option maxRecDepth 100000 in
set_option maxHeartbeats 4000000 in
/-- isMap of no map -/
theorem c_md_isMap_x (l : Launch) (D : va_G) (cI cT cP : ClassId) (q : Int32) (hq : bad q) : Cg l y_md_isMap b_md_isMap 1 (some .boolean) 0 0 0 D (ty3 cI cT cP) [.int q] ([]) (fun (v : Option Value) (u : Unit) => v = some (.int 0)) (fun u => []) := by
  refine cg_enter rfl (Nat.le_of_ble_eq_true rfl) ?_
  intro p e s m below meth c args hx hb hr hlk hml hown hin hts A hA hK hP hD hS ls hl Q hQ
  have hl : lv_has ls 1 [(0, .int q)] := hl
  have hP : va_P D cls ([]) s.heap := hP
  have hD : va_D A ([]) := hD
  refine lv_iload_n hx hb d_md_isMap_0 rfl (lv_at hl 0 rfl) ?_
  refine lv_if_lt (tgt := 13) hx hb d_md_isMap_1 (by decide) (fun c1 => ?_) (fun c1 => ?_)
  · refine lv_iconst (v := 0) hx hb d_md_isMap_13 (by decide) ?_
    exact cg_zret (u := ()) hQ hx hb hr hlk hK hP hD hS rfl rfl d_md_isMap_14
  · obtain ⟨i, hi, e1⟩ := nI_of c1
    have h3 : 3 ≤ i := by
      rcases hq with z9 | z9
      · exact absurd z9 c1
      · rw [e1] at z9; exact (nI_leI (by decide) hi).mp z9
    refine lv_iload_n hx hb d_md_isMap_4 rfl (lv_at hl 0 rfl) ?_
    refine lv_iconst (v := 2) hx hb d_md_isMap_5 (by decide) ?_
    refine lv_icmp_gt (tgt := 13) hx hb d_md_isMap_6 (by decide) (fun _ => ?_) (fun z9 => absurd (by rw [e1]; exact nI_lt (a := 2) (by omega) hi) z9)
    refine lv_iconst (v := 0) hx hb d_md_isMap_13 (by decide) ?_
    exact cg_zret (u := ()) hQ hx hb hr hlk hK hP hD hS rfl rfl d_md_isMap_14
set_option maxRecDepth 100000 in
set_option maxHeartbeats 4000000 in
/-- use -/
theorem c_md_use (l : Launch) (D : va_G) (cI cT cP : ClassId) (h r : Nat) (ft : Nat → Option Nat) (km : Nat) (hkm : km < 3) (a : Nat) (hft : ft km = some a) (qs qk qv qb qn n : Nat) (Z K V P N : Nat → Int32) (fr md fi la my : Int32) (j mm : Nat) (R Fr : List Nat) (hPA : PA n j mm R Fr) (hPN : PN P N fi la R) (hsF : sg N fr Fr (-1)) (hnd : (R.map K).Nodup) (x : Nat) (hxR : x ∈ R) : Cg l y_md_use b_md_use 3 (none) 2 0 0 D (ty3 cI cT cP) [.ref h, .int (nI km), .int (nI x)] ([(h, .inr (3, [.ref r])), (r, .inl (cP, 3, .inr (.inr (.inr (.inr ft)))))] ++ (px cI a qs qk qv qb qn n Z K V P N my fr md fi la)) (fun (v : Option Value) (u : (Nat → Int32) × (Nat → Int32) × Int32 × Int32) => v = none ∧ ∃ R', R'.Perm R ∧ PN u.1 u.2.1 u.2.2.1 u.2.2.2 R' ∧ sg u.2.1 fr Fr (-1) ∧ kv K V R' = us (decide (km = 2)) (K x) (kv K V R)) (fun u => [(h, .inr (3, [.ref r])), (r, .inl (cP, 3, .inr (.inr (.inr (.inr ft)))))] ++ (px cI a qs qk qv qb qn n Z K V u.1 u.2.1 my fr md u.2.2.1 u.2.2.2)) := by
  refine cg_enter rfl (Nat.le_of_ble_eq_true rfl) ?_
  intro p e s m below meth c args hx hb hr hlk hml hown hin hts A hA hK hP hD hS ls hl Q hQ
  have hl : lv_has ls 3 [(0, .ref h), (1, .int (nI km)), (2, .int (nI x))] := hl
  have hP : va_P D cls ([(h, .inr (3, [.ref r])), (r, .inl (cP, 3, .inr (.inr (.inr (.inr ft)))))] ++ (px cI a qs qk qv qb qn n Z K V P N my fr md fi la)) s.heap := hP
  have hD : va_D A ([(h, .inr (3, [.ref r])), (r, .inl (cP, 3, .inr (.inr (.inr (.inr ft)))))] ++ (px cI a qs qk qv qb qn n Z K V P N my fr md fi la)) := hD
  refine lv_iload_n hx hb d_md_use_0 rfl (lv_at hl 1 rfl) ?_
  refine lv_iconst (v := 2) hx hb d_md_use_1 (by decide) ?_
  by_cases hk2 : km = 2
  · refine lv_icmp_ne (tgt := 15) hx hb d_md_use_2 (by decide) (fun z9 => absurd (by rw [hk2]; rfl) z9) (fun _ => ?_)
    obtain ⟨l1, l2, eR⟩ := List.append_of_mem hxR
    have hpn := pa_n hPA
    have hft2 : ft 2 = some a := by rw [← hk2]; exact hft
    refine lv_aload_n hx hb d_md_use_5 rfl (lv_at hl 0 rfl) ?_
    refine va_get (D := D) (ci := 3) (v := .ref r) (C := R_md) (T := F_md) (N := 1) hx hb hts i_md hown hK hP 0 rfl rfl 0 (by decide) (hts _ kf_md_12) (fun _ h9 => h9) rfl d_md_use_6 ?_
    refine lv_iconst (v := 2) hx hb d_md_use_9 (by decide) ?_
    refine tp_i (y := nI 2) rfl ?_
    refine wa_ald (k := 2) (b := a) hx hb hK hP 1 2 rfl rfl (by decide) (by decide) hft2 d_md_use_10 ?_
    refine lv_iload_n hx hb d_md_use_11 rfl (lv_at hl 2 rfl) ?_
    refine cg_V (hn := 1) (As := [.int (nI x)]) (rest := []) (wr := [(h, .inr (3, [.ref r])), (r, .inl (cP, 3, .inr (.inr (.inr (.inr ft)))))]) (q0 := 0) (ci := 2) hx hb hml hown hts (c_pr_toLast l D cI cT cP a qs qk qv qb qn n Z K V P N my fr md fi la l1 l2 x (by omega) (by rw [← eR]; exact pa_nd hPA) (fun y hy => (pa_in hPA (by rw [eR]; exact hy)).2) (by rw [← eR]; exact hPN)) km_md_16 ki_pr_toLast ks_pr_toLast kn_pr kc_pr_toLast (by decide +kernel) rfl ⟨Nat.le_of_ble_eq_true rfl, Nat.le_of_ble_eq_true rfl⟩ hK hP hD hS hA [2, 3, 4, 5, 6, 7] [0, 1] rfl (by decide) rfl (by decide) (by decide) rfl rfl hl.1 rfl (Nat.le_of_ble_eq_true rfl) d_md_use_12 ⟨Nat.zero_le _, Nat.zero_le _⟩ (fun v u H locs hpost hP hD hS => ?_)
    obtain ⟨P2, N2, fi2, la2⟩ := u
    obtain ⟨e9, hp2, hp3⟩ := hpost
    subst e9
    refine W.eq (g2 := F0 m 15 ls []) rfl ?_
    have hP : va_P D cls ([(h, .inr (3, [.ref r])), (r, .inl (cP, 3, .inr (.inr (.inr (.inr ft)))))] ++ (px cI a qs qk qv qb qn n Z K V P2 N2 my fr md fi2 la2)) H := hP
    have hD : va_D A ([(h, .inr (3, [.ref r])), (r, .inl (cP, 3, .inr (.inr (.inr (.inr ft)))))] ++ (px cI a qs qk qv qb qn n Z K V P2 N2 my fr md fi2 la2)) := hD
    have hk3 := kv_split (K := K) (V := V) (l1 := l1) (l2 := l2) (x := x) (by rw [← eR]; exact hnd)
    exact cg_vret (u := (P2, N2, fi2, la2)) hQ hx hb hr hlk hK hP hD hS (⟨rfl, (l1 ++ l2) ++ [x], (by rw [eR]; exact (List.perm_append_singleton x _).trans List.perm_middle.symm), hp2, sg_cong (fun y hy => hp3 y (fun z9 => (List.nodup_append.mp hPA.2.2.1).2.2 y (by rw [eR]; exact z9) y hy rfl)) hsF, (by rw [eR, decide_eq_true hk2]; unfold us; rw [hk3.1, hk3.2.1]; simp [kv])⟩) d_md_use_15
  · refine lv_icmp_ne (tgt := 15) hx hb d_md_use_2 (by decide) (fun _ => ?_) (fun z9 => absurd z9 (fun z9 => hk2 ((nI_eq (b := 2) (by omega) (by decide)).mp z9)))
    exact cg_vret (u := (P, N, fi, la)) hQ hx hb hr hlk hK hP hD hS (⟨rfl, R, List.Perm.refl R, hPN, hsF, by rw [decide_eq_false hk2]; rfl⟩) d_md_use_15
set_option maxRecDepth 100000 in
set_option maxHeartbeats 4000000 in
/-- put -/
theorem c_md_put (l : Launch) (D : va_G) (cI cT cP : ClassId) (h r : Nat) (ft : Nat → Option Nat) (km : Nat) (hkm : km < 3) (a : Nat) (hft : ft km = some a) (j : Nat) (L : List (Int32 × Int32)) (u0 : PB) (hL : PL j L u0) (k v0 : Int32) (hlen : L.length < 2047) : Cg l y_md_put b_md_put 6 (some .long) 4 (mcR j (njrs j k L)) (msR j (njrs j k L)) D (ty3 cI cT cP) [.ref h, .int (nI km), .int k, .int v0] ([(h, .inr (3, [.ref r])), (r, .inl (cP, 3, .inr (.inr (.inr (.inr ft)))))] ++ (pw cI a j u0)) (fun (v : Option Value) (u : PB) => v = some (.long (an (lk k L))) ∧ PL (njrs j k L) (st (decide (km = 2)) k v0 L) u) (fun u => [(h, .inr (3, [.ref r])), (r, .inl (cP, 3, .inr (.inr (.inr (.inr ft)))))] ++ (pw cI a (njrs j k L) u)) := by
  obtain ⟨qs, qk, qv, qb, qn, Z, K, V, P, N, fr, mm, fi, la, R⟩ := u0
  obtain ⟨Fr, Sp, hPA, hPN, hPS, hsF, eL⟩ := hL
  have hPA : PA (2 ^ (4 + j)) j mm R Fr := hPA
  have hPN : PN P N fi la R := hPN
  have hPS : PS K Z R Sp := hPS
  have hsF : sg N fr Fr (-1) := hsF
  have eL : L = kv K V R := eL
  have hLl : L.length = R.length := by rw [eL]; exact List.length_map ..
  have hpn := pa_n hPA
  have hn : 2 ^ (4 + j) < 2 ^ 31 := by omega
  have hSl : Sp.length = R.length := hPS.1.length_eq
  have hin2 : ∀ x, x ∈ Sp → x < 2 ^ (4 + j) := fun x hx1 => (pa_in hPA (hPS.1.mem_iff.mp hx1)).2
  have hnd := ps_nd hPS
  refine cg_enter rfl (Nat.le_of_ble_eq_true rfl) ?_
  intro p e s m below meth c args hx hb hr hlk hml hown hin hts A hA hK hP hD hS ls hl Q hQ
  have hl : lv_has ls 6 [(0, .ref h), (1, .int (nI km)), (2, .int k), (3, .int v0)] := hl
  have hP : va_P D cls ([(h, .inr (3, [.ref r])), (r, .inl (cP, 3, .inr (.inr (.inr (.inr ft)))))] ++ (px cI a qs qk qv qb qn (2 ^ (4 + j)) Z K V P N (nI R.length) fr (nI mm) fi la)) s.heap := hP
  have hD : va_D A ([(h, .inr (3, [.ref r])), (r, .inl (cP, 3, .inr (.inr (.inr (.inr ft)))))] ++ (px cI a qs qk qv qb qn (2 ^ (4 + j)) Z K V P N (nI R.length) fr (nI mm) fi la)) := hD
  refine lv_iload_n hx hb d_md_put_0 rfl (lv_at hl 1 rfl) ?_
  refine cg_S (hn := 1) (As := [.int (nI km)]) (rest := []) (wr := [(h, .inr (3, [.ref r])), (r, .inl (cP, 3, .inr (.inr (.inr (.inr ft)))))] ++ (px cI a qs qk qv qb qn (2 ^ (4 + j)) Z K V P N (nI R.length) fr (nI mm) fi la)) hx hb hml hown hts (c_md_isMap l D cI cT cP km hkm) km_md_20 kt_md_isMap kn_md kc_md_isMap (by decide +kernel) rfl ⟨Nat.le_of_ble_eq_true rfl, Nat.le_of_ble_eq_true rfl⟩ hK hP hD hS hA [] [0, 1, 2, 3, 4, 5, 6, 7] rfl (by decide) rfl (by decide) (by decide) hl.1 rfl (Nat.le_of_ble_eq_true rfl) d_md_put_1 ⟨Nat.zero_le _, Nat.zero_le _⟩ (fun v u H locs hpost hP hD hS => ?_)
  subst hpost
  refine W.eq (g2 := F0 m 4 ls [.int 1]) rfl ?_
  have hP : va_P D cls ([(h, .inr (3, [.ref r])), (r, .inl (cP, 3, .inr (.inr (.inr (.inr ft)))))] ++ (px cI a qs qk qv qb qn (2 ^ (4 + j)) Z K V P N (nI R.length) fr (nI mm) fi la)) H := hP
  have hD : va_D A ([(h, .inr (3, [.ref r])), (r, .inl (cP, 3, .inr (.inr (.inr (.inr ft)))))] ++ (px cI a qs qk qv qb qn (2 ^ (4 + j)) Z K V P N (nI R.length) fr (nI mm) fi la)) := hD
  refine lv_if_ne (tgt := 11) hx hb d_md_put_4 (by decide) (fun _ => ?_) (fun z9 => absurd z9 (by decide))
  refine lv_aload_n hx hb d_md_put_11 rfl (lv_at hl 0 rfl) ?_
  refine va_get (D := D) (ci := 3) (v := .ref r) (C := R_md) (T := F_md) (N := 1) hx hb hts i_md hown hK hP 0 rfl rfl 0 (by decide) (hts _ kf_md_12) (fun _ h9 => h9) rfl d_md_put_12 ?_
  refine lv_iload_n hx hb d_md_put_15 rfl (lv_at hl 1 rfl) ?_
  refine wa_ald (k := km) (b := a) hx hb hK hP 1 2 rfl rfl hkm (by decide) hft d_md_put_16 ?_
  refine lv_iload_n hx hb d_md_put_17 rfl (lv_at hl 2 rfl) ?_
  refine cg_V (hn := 1) (As := [.int k]) (rest := []) (wr := [(h, .inr (3, [.ref r])), (r, .inl (cP, 3, .inr (.inr (.inr (.inr ft)))))]) (q0 := 0) (ci := 2) hx hb hml hown hts (c_pr_find l D cI cT cP a qs qk qv qb qn (2 ^ (4 + j)) Z K V P N fr (nI mm) fi la j mm R Fr Sp hPA hPS k) km_md_26 ki_pr_find ks_pr_find kn_pr kc_pr_find (by decide +kernel) rfl ⟨Nat.le_of_ble_eq_true rfl, Nat.le_of_ble_eq_true rfl⟩ hK hP hD hS hA [2, 3, 4, 5, 6, 7] [0, 1] rfl (by decide) rfl (by decide) (by decide) rfl rfl hl.1 rfl (Nat.le_of_ble_eq_true rfl) d_md_put_18 ⟨Nat.zero_le _, Nat.zero_le _⟩ (fun v u H locs hpost hP hD hS => ?_)
  subst hpost
  refine W.eq (g2 := F0 m 21 ls [.int (io (so K k R))]) rfl ?_
  have hP : va_P D cls ([(h, .inr (3, [.ref r])), (r, .inl (cP, 3, .inr (.inr (.inr (.inr ft)))))] ++ (px cI a qs qk qv qb qn (2 ^ (4 + j)) Z K V P N (nI R.length) fr (nI mm) fi la)) H := hP
  have hD : va_D A ([(h, .inr (3, [.ref r])), (r, .inl (cP, 3, .inr (.inr (.inr (.inr ft)))))] ++ (px cI a qs qk qv qb qn (2 ^ (4 + j)) Z K V P N (nI R.length) fr (nI mm) fi la)) := hD
  rcases so_cases K k R with ⟨e0, hno⟩ | ⟨x, e0, hxR, hke⟩
  · rw [e0]
    have hkL : lk k L = none := by rw [eL]; exact kv_out hno
    have ej : njrs j k L = njr j R.length := by unfold njrs; rw [hkL, hLl]
    refine lv_istore (lv' := [(4, .int (-1)), (0, .ref h), (1, .int (nI km)), (2, .int k), (3, .int v0)]) hx hb d_md_put_21 hl (by decide) rfl (fun ls hl => ?_)
    refine lv_iload hx hb d_md_put_23 (lv_at hl 0 rfl) ?_
    refine lv_if_ge (tgt := 43) hx hb d_md_put_25 (by decide) (fun z9 => absurd z9 m1_nge) (fun _ => ?_)
    refine lv_aload_n hx hb d_md_put_28 rfl (lv_at hl 1 rfl) ?_
    refine va_get (D := D) (ci := 3) (v := .ref r) (C := R_md) (T := F_md) (N := 1) hx hb hts i_md hown hK hP 0 rfl rfl 0 (by decide) (hts _ kf_md_12) (fun _ h9 => h9) rfl d_md_put_29 ?_
    refine lv_iload_n hx hb d_md_put_32 rfl (lv_at hl 2 rfl) ?_
    refine wa_ald (k := km) (b := a) hx hb hK hP 1 2 rfl rfl hkm (by decide) hft d_md_put_33 ?_
    refine lv_iload_n hx hb d_md_put_34 rfl (lv_at hl 3 rfl) ?_
    refine lv_iload_n hx hb d_md_put_35 rfl (lv_at hl 4 rfl) ?_
    refine cg_V (hn := 2) (As := [.int k, .int v0]) (rest := []) (wr := [(h, .inr (3, [.ref r])), (r, .inl (cP, 3, .inr (.inr (.inr (.inr ft)))))]) (q0 := 0) (ci := 2) hx hb hml hown hts (c_pr_insert l D cI cT cP a qs qk qv qb qn Z K V P N fr fi la j mm R Fr Sp hPA hPN hPS hsF k v0 hno (by omega)) km_md_30 ki_pr_insert ks_pr_insert kn_pr kc_pr_insert (by decide +kernel) rfl ⟨Nat.le_of_ble_eq_true rfl, Nat.le_of_ble_eq_true rfl⟩ hK hP hD hS hA [2, 3, 4, 5, 6, 7] [0, 1] rfl (by decide) rfl (by decide) (by decide) rfl rfl hl.1 rfl (Nat.le_of_ble_eq_true rfl) d_md_put_36 ⟨Nat.le_of_eq (by show 0 + mcR j (njr j R.length) = mcR j (njrs j k L); rw [ej, Nat.zero_add]), Nat.le_of_eq (by show 0 + msR j (njr j R.length) = msR j (njrs j k L); rw [ej, Nat.zero_add])⟩ (fun v u H locs hpost hP hD hS => ?_)
    obtain ⟨e9, hT2⟩ := hpost
    subst e9
    rw [← ej] at hP hD hT2
    refine W.eq (g2 := F0 m 39 ls []) rfl ?_
    have hP : va_P D cls ([(h, .inr (3, [.ref r])), (r, .inl (cP, 3, .inr (.inr (.inr (.inr ft)))))] ++ (pw cI a (njrs j k L) u)) H := hP
    have hD : va_D A ([(h, .inr (3, [.ref r])), (r, .inl (cP, 3, .inr (.inr (.inr (.inr ft)))))] ++ (pw cI a (njrs j k L) u)) := hD
    refine W.widen (k := mcR j (njrs j k L)) (n := msR j (njrs j k L)) (Nat.le_of_eq (by rw [ej]; simp)) (Nat.le_of_eq (by rw [ej]; simp)) ?_
    refine lv_ldc2 hx hb hown (hts _ kk_md_34) d_md_put_39 ?_
    exact cg_lret (u := u) hQ hx hb hr hlk hK hP hD hS (⟨by rw [hkL]; rfl, by unfold st; rw [hkL]; show PL _ (L ++ [(k, v0)]) u; rw [eL] at hT2 ⊢; exact hT2⟩) d_md_put_42
  · rw [e0]
    have hxn := pa_in hPA hxR
    have hkL : lk k L = some (V x) := by rw [eL, ← hke]; exact kv_at hxR hnd
    have ej : njrs j k L = j := by unfold njrs; rw [hkL]
    refine lv_istore (lv' := [(4, .int (nI x)), (0, .ref h), (1, .int (nI km)), (2, .int k), (3, .int v0)]) hx hb d_md_put_21 hl (by decide) rfl (fun ls hl => ?_)
    refine lv_iload hx hb d_md_put_23 (lv_at hl 0 rfl) ?_
    refine lv_if_ge (tgt := 43) hx hb d_md_put_25 (by decide) (fun _ => ?_) (fun z9 => absurd (nI_pos' (by omega)) z9)
    refine lv_aload_n hx hb d_md_put_43 rfl (lv_at hl 1 rfl) ?_
    refine va_get (D := D) (ci := 3) (v := .ref r) (C := R_md) (T := F_md) (N := 1) hx hb hts i_md hown hK hP 0 rfl rfl 0 (by decide) (hts _ kf_md_12) (fun _ h9 => h9) rfl d_md_put_44 ?_
    refine lv_iload_n hx hb d_md_put_47 rfl (lv_at hl 2 rfl) ?_
    refine wa_ald (k := km) (b := a) hx hb hK hP 1 2 rfl rfl hkm (by decide) hft d_md_put_48 ?_
    refine va_get (D := D) (ci := 2) (v := .ref qv) (C := R_pr) (T := F_pr) (N := 10) hx hb hts i_pr hown hK hP 2 rfl rfl 2 (by decide) (hts _ kf_md_36) (fun _ h9 => h9) rfl d_md_put_49 ?_
    refine lv_iload hx hb d_md_put_52 (lv_at hl 0 rfl) ?_
    refine wa_ld (k := x) hx hb hK hP 5 0 rfl rfl hxn.2 hn d_md_put_54 ?_
    refine lv_istore (lv' := [(5, .int (V x)), (4, .int (nI x)), (0, .ref h), (1, .int (nI km)), (2, .int k), (3, .int v0)]) hx hb d_md_put_55 hl (by decide) rfl (fun ls hl => ?_)
    refine lv_aload_n hx hb d_md_put_57 rfl (lv_at hl 2 rfl) ?_
    refine va_get (D := D) (ci := 3) (v := .ref r) (C := R_md) (T := F_md) (N := 1) hx hb hts i_md hown hK hP 0 rfl rfl 0 (by decide) (hts _ kf_md_12) (fun _ h9 => h9) rfl d_md_put_58 ?_
    refine lv_iload_n hx hb d_md_put_61 rfl (lv_at hl 3 rfl) ?_
    refine wa_ald (k := km) (b := a) hx hb hK hP 1 2 rfl rfl hkm (by decide) hft d_md_put_62 ?_
    refine va_get (D := D) (ci := 2) (v := .ref qv) (C := R_pr) (T := F_pr) (N := 10) hx hb hts i_pr hown hK hP 2 rfl rfl 2 (by decide) (hts _ kf_md_36) (fun _ h9 => h9) rfl d_md_put_63 ?_
    refine lv_iload hx hb d_md_put_66 (lv_at hl 1 rfl) ?_
    refine lv_iload_n hx hb d_md_put_68 rfl (lv_at hl 5 rfl) ?_
    refine wa_st (k := x) (x := v0) hx hb hK hP hD hS 5 0 rfl rfl hxn.2 hn d_md_put_69 (fun H locs hP hD hS => ?_)
    have hP : va_P D cls ([(h, .inr (3, [.ref r])), (r, .inl (cP, 3, .inr (.inr (.inr (.inr ft)))))] ++ (px cI a qs qk qv qb qn (2 ^ (4 + j)) Z K (upd V x v0) P N (nI R.length) fr (nI mm) fi la)) H := hP
    have hD : va_D A ([(h, .inr (3, [.ref r])), (r, .inl (cP, 3, .inr (.inr (.inr (.inr ft)))))] ++ (px cI a qs qk qv qb qn (2 ^ (4 + j)) Z K (upd V x v0) P N (nI R.length) fr (nI mm) fi la)) := hD
    refine lv_aload_n hx hb d_md_put_70 rfl (lv_at hl 2 rfl) ?_
    refine lv_iload_n hx hb d_md_put_71 rfl (lv_at hl 3 rfl) ?_
    refine lv_iload hx hb d_md_put_72 (lv_at hl 1 rfl) ?_
    refine cg_V (hn := 2) (As := [.int (nI km), .int (nI x)]) (rest := []) (wr := []) (q0 := 0) (ci := 3) hx hb hml hown hts (c_md_use l D cI cT cP h r ft km hkm a hft qs qk qv qb qn (2 ^ (4 + j)) Z K (upd V x v0) P N fr (nI mm) fi la (nI R.length) j mm R Fr hPA hPN hsF hnd x hxR) km_md_40 ki_md_use ks_md_use kn_md kc_md_use (by decide +kernel) rfl ⟨Nat.le_of_ble_eq_true rfl, Nat.le_of_ble_eq_true rfl⟩ hK hP hD hS hA [0, 1, 2, 3, 4, 5, 6, 7] [] rfl (by decide) rfl (by decide) (by decide) rfl rfl hl.1 rfl (Nat.le_of_ble_eq_true rfl) d_md_put_74 ⟨Nat.zero_le _, Nat.zero_le _⟩ (fun v u H locs hpost hP hD hS => ?_)
    obtain ⟨P2, N2, fi2, la2⟩ := u
    obtain ⟨e9, R2, hp2, hPN2, hsF2, ek2⟩ := hpost
    subst e9
    rw [← hp2.length_eq] at hP hD
    refine W.eq (g2 := F0 m 77 ls []) rfl ?_
    have hP : va_P D cls ([(h, .inr (3, [.ref r])), (r, .inl (cP, 3, .inr (.inr (.inr (.inr ft)))))] ++ (px cI a qs qk qv qb qn (2 ^ (4 + j)) Z K (upd V x v0) P2 N2 (nI R2.length) fr (nI mm) fi2 la2)) H := hP
    have hD : va_D A ([(h, .inr (3, [.ref r])), (r, .inl (cP, 3, .inr (.inr (.inr (.inr ft)))))] ++ (px cI a qs qk qv qb qn (2 ^ (4 + j)) Z K (upd V x v0) P2 N2 (nI R2.length) fr (nI mm) fi2 la2)) := hD
    have hPN2 : PN P2 N2 fi2 la2 R2 := hPN2
    have hsF2 : sg N2 fr Fr (-1) := hsF2
    refine W.widen (k := mcR j (njrs j k L)) (n := msR j (njrs j k L)) (by show 0 + 0 + 0 + 0 ≤ _; exact Nat.zero_le _) (by show 0 + 0 + 0 + 0 ≤ _; exact Nat.zero_le _) ?_
    refine lv_iload hx hb d_md_put_77 (lv_at hl 0 rfl) ?_
    refine lv_i2l (v := (V x).toInt64) hx hb d_md_put_79 rfl ?_
    have ekv : st (decide (km = 2)) k v0 L = kv K (upd V x v0) R2 := by
      unfold st
      rw [hkL]
      show us _ k (setv k v0 L) = _
      obtain ⟨l1, l2, eR⟩ := List.append_of_mem hxR
      have h3 := (kv_split (K := K) (V := V) (l1 := l1) (l2 := l2) (x := x) (by rw [← eR]; exact hnd)).2.2 v0
      rw [← eR, hke, ← eL] at h3
      rw [h3, ek2, hke]
    have hP : va_P D cls ([(h, .inr (3, [.ref r])), (r, .inl (cP, 3, .inr (.inr (.inr (.inr ft)))))] ++ (pw cI a (njrs j k L) (qs, qk, qv, qb, qn, Z, K, upd V x v0, P2, N2, fr, mm, fi2, la2, R2))) H := by rw [ej]; exact hP
    have hD : va_D A ([(h, .inr (3, [.ref r])), (r, .inl (cP, 3, .inr (.inr (.inr (.inr ft)))))] ++ (pw cI a (njrs j k L) (qs, qk, qv, qb, qn, Z, K, upd V x v0, P2, N2, fr, mm, fi2, la2, R2))) := by rw [ej]; exact hD
    exact cg_lret (u := (qs, qk, qv, qb, qn, Z, K, upd V x v0, P2, N2, fr, mm, fi2, la2, R2)) hQ hx hb hr hlk hK hP hD hS (⟨by rw [hkL]; rfl, by rw [ej]; exact ⟨Fr, Sp, pa_perm hPA hp2, hPN2, ps_perm hPS hp2, hsF2, ekv⟩⟩) d_md_put_80
set_option maxRecDepth 100000 in
set_option maxHeartbeats 4000000 in
theorem c_md_put_x (l : Launch) (D : va_G) (cI cT cP : ClassId) (h r : Nat) (q : Int32) (hq : bad q) (k v0 : Int32) : Cg l y_md_put b_md_put 6 (some .long) 4 0 0 D (ty3 cI cT cP) [.ref h, .int q, .int k, .int v0] ([(h, .inr (3, [.ref r]))]) (fun (v : Option Value) (u : Unit) => v = some (.long 1099511627777)) (fun u => [(h, .inr (3, [.ref r]))]) := by
  refine cg_enter rfl (Nat.le_of_ble_eq_true rfl) ?_
  intro p e s m below meth c args hx hb hr hlk hml hown hin hts A hA hK hP hD hS ls hl Q hQ
  have hl : lv_has ls 6 [(0, .ref h), (1, .int q), (2, .int k), (3, .int v0)] := hl
  have hP : va_P D cls ([(h, .inr (3, [.ref r]))]) s.heap := hP
  have hD : va_D A ([(h, .inr (3, [.ref r]))]) := hD
  refine lv_iload_n hx hb d_md_put_0 rfl (lv_at hl 1 rfl) ?_
  refine cg_S (hn := 1) (As := [.int q]) (rest := []) (wr := [(h, .inr (3, [.ref r]))]) hx hb hml hown hts (c_md_isMap_x l D cI cT cP q hq) km_md_20 kt_md_isMap kn_md kc_md_isMap (by decide +kernel) rfl ⟨Nat.le_of_ble_eq_true rfl, Nat.le_of_ble_eq_true rfl⟩ hK hP hD hS hA [] [0] rfl (by decide) rfl (by decide) (by decide) hl.1 rfl (Nat.le_of_ble_eq_true rfl) d_md_put_1 ⟨Nat.zero_le _, Nat.zero_le _⟩ (fun v u H locs hpost hP hD hS => ?_)
  subst hpost
  refine W.eq (g2 := F0 m 4 ls [.int 0]) rfl ?_
  have hP : va_P D cls ([(h, .inr (3, [.ref r]))]) H := hP
  have hD : va_D A ([(h, .inr (3, [.ref r]))]) := hD
  refine lv_if_ne (tgt := 11) hx hb d_md_put_4 (by decide) (fun z9 => absurd rfl z9) (fun _ => ?_)
  refine lv_ldc2 hx hb hown (hts _ kk_md_24) d_md_put_7 ?_
  exact cg_lret (u := ()) hQ hx hb hr hlk hK hP hD hS rfl d_md_put_10
set_option maxRecDepth 100000 in
set_option maxHeartbeats 4000000 in
/-- add -/
theorem c_md_add (l : Launch) (D : va_G) (cI cT cP : ClassId) (h r : Nat) (ft : Nat → Option Nat) (km : Nat) (hkm : km < 3) (a : Nat) (hft : ft km = some a) (j : Nat) (L : List (Int32 × Int32)) (u0 : PB) (hL : PL j L u0) (k v0 : Int32) (hlen : L.length < 2047) : Cg l y_md_add b_md_add 5 (some .long) 4 (mcR j (njrs j k L)) (msR j (njrs j k L)) D (ty3 cI cT cP) [.ref h, .int (nI km), .int k, .int v0] ([(h, .inr (3, [.ref r])), (r, .inl (cP, 3, .inr (.inr (.inr (.inr ft)))))] ++ (pw cI a j u0)) (fun (v : Option Value) (u : PB) => v = some (.long (an (lk k L))) ∧ PL (njrs j k L) (ad (decide (km = 2)) k v0 L) u) (fun u => [(h, .inr (3, [.ref r])), (r, .inl (cP, 3, .inr (.inr (.inr (.inr ft)))))] ++ (pw cI a (njrs j k L) u)) := by
  obtain ⟨qs, qk, qv, qb, qn, Z, K, V, P, N, fr, mm, fi, la, R⟩ := u0
  obtain ⟨Fr, Sp, hPA, hPN, hPS, hsF, eL⟩ := hL
  have hPA : PA (2 ^ (4 + j)) j mm R Fr := hPA
  have hPN : PN P N fi la R := hPN
  have hPS : PS K Z R Sp := hPS
  have hsF : sg N fr Fr (-1) := hsF
  have eL : L = kv K V R := eL
  have hLl : L.length = R.length := by rw [eL]; exact List.length_map ..
  have hpn := pa_n hPA
  have hn : 2 ^ (4 + j) < 2 ^ 31 := by omega
  have hSl : Sp.length = R.length := hPS.1.length_eq
  have hin2 : ∀ x, x ∈ Sp → x < 2 ^ (4 + j) := fun x hx1 => (pa_in hPA (hPS.1.mem_iff.mp hx1)).2
  have hnd := ps_nd hPS
  refine cg_enter rfl (Nat.le_of_ble_eq_true rfl) ?_
  intro p e s m below meth c args hx hb hr hlk hml hown hin hts A hA hK hP hD hS ls hl Q hQ
  have hl : lv_has ls 5 [(0, .ref h), (1, .int (nI km)), (2, .int k), (3, .int v0)] := hl
  have hP : va_P D cls ([(h, .inr (3, [.ref r])), (r, .inl (cP, 3, .inr (.inr (.inr (.inr ft)))))] ++ (px cI a qs qk qv qb qn (2 ^ (4 + j)) Z K V P N (nI R.length) fr (nI mm) fi la)) s.heap := hP
  have hD : va_D A ([(h, .inr (3, [.ref r])), (r, .inl (cP, 3, .inr (.inr (.inr (.inr ft)))))] ++ (px cI a qs qk qv qb qn (2 ^ (4 + j)) Z K V P N (nI R.length) fr (nI mm) fi la)) := hD
  refine lv_iload_n hx hb d_md_add_0 rfl (lv_at hl 1 rfl) ?_
  refine cg_S (hn := 1) (As := [.int (nI km)]) (rest := []) (wr := [(h, .inr (3, [.ref r])), (r, .inl (cP, 3, .inr (.inr (.inr (.inr ft)))))] ++ (px cI a qs qk qv qb qn (2 ^ (4 + j)) Z K V P N (nI R.length) fr (nI mm) fi la)) hx hb hml hown hts (c_md_isMap l D cI cT cP km hkm) km_md_20 kt_md_isMap kn_md kc_md_isMap (by decide +kernel) rfl ⟨Nat.le_of_ble_eq_true rfl, Nat.le_of_ble_eq_true rfl⟩ hK hP hD hS hA [] [0, 1, 2, 3, 4, 5, 6, 7] rfl (by decide) rfl (by decide) (by decide) hl.1 rfl (Nat.le_of_ble_eq_true rfl) d_md_add_1 ⟨Nat.zero_le _, Nat.zero_le _⟩ (fun v u H locs hpost hP hD hS => ?_)
  subst hpost
  refine W.eq (g2 := F0 m 4 ls [.int 1]) rfl ?_
  have hP : va_P D cls ([(h, .inr (3, [.ref r])), (r, .inl (cP, 3, .inr (.inr (.inr (.inr ft)))))] ++ (px cI a qs qk qv qb qn (2 ^ (4 + j)) Z K V P N (nI R.length) fr (nI mm) fi la)) H := hP
  have hD : va_D A ([(h, .inr (3, [.ref r])), (r, .inl (cP, 3, .inr (.inr (.inr (.inr ft)))))] ++ (px cI a qs qk qv qb qn (2 ^ (4 + j)) Z K V P N (nI R.length) fr (nI mm) fi la)) := hD
  refine lv_if_ne (tgt := 11) hx hb d_md_add_4 (by decide) (fun _ => ?_) (fun z9 => absurd z9 (by decide))
  refine lv_aload_n hx hb d_md_add_11 rfl (lv_at hl 0 rfl) ?_
  refine va_get (D := D) (ci := 3) (v := .ref r) (C := R_md) (T := F_md) (N := 1) hx hb hts i_md hown hK hP 0 rfl rfl 0 (by decide) (hts _ kf_md_12) (fun _ h9 => h9) rfl d_md_add_12 ?_
  refine lv_iload_n hx hb d_md_add_15 rfl (lv_at hl 1 rfl) ?_
  refine wa_ald (k := km) (b := a) hx hb hK hP 1 2 rfl rfl hkm (by decide) hft d_md_add_16 ?_
  refine lv_iload_n hx hb d_md_add_17 rfl (lv_at hl 2 rfl) ?_
  refine cg_V (hn := 1) (As := [.int k]) (rest := []) (wr := [(h, .inr (3, [.ref r])), (r, .inl (cP, 3, .inr (.inr (.inr (.inr ft)))))]) (q0 := 0) (ci := 2) hx hb hml hown hts (c_pr_find l D cI cT cP a qs qk qv qb qn (2 ^ (4 + j)) Z K V P N fr (nI mm) fi la j mm R Fr Sp hPA hPS k) km_md_26 ki_pr_find ks_pr_find kn_pr kc_pr_find (by decide +kernel) rfl ⟨Nat.le_of_ble_eq_true rfl, Nat.le_of_ble_eq_true rfl⟩ hK hP hD hS hA [2, 3, 4, 5, 6, 7] [0, 1] rfl (by decide) rfl (by decide) (by decide) rfl rfl hl.1 rfl (Nat.le_of_ble_eq_true rfl) d_md_add_18 ⟨Nat.zero_le _, Nat.zero_le _⟩ (fun v u H locs hpost hP hD hS => ?_)
  subst hpost
  refine W.eq (g2 := F0 m 21 ls [.int (io (so K k R))]) rfl ?_
  have hP : va_P D cls ([(h, .inr (3, [.ref r])), (r, .inl (cP, 3, .inr (.inr (.inr (.inr ft)))))] ++ (px cI a qs qk qv qb qn (2 ^ (4 + j)) Z K V P N (nI R.length) fr (nI mm) fi la)) H := hP
  have hD : va_D A ([(h, .inr (3, [.ref r])), (r, .inl (cP, 3, .inr (.inr (.inr (.inr ft)))))] ++ (px cI a qs qk qv qb qn (2 ^ (4 + j)) Z K V P N (nI R.length) fr (nI mm) fi la)) := hD
  rcases so_cases K k R with ⟨e0, hno⟩ | ⟨x, e0, hxR, hke⟩
  · rw [e0]
    have hkL : lk k L = none := by rw [eL]; exact kv_out hno
    have ej : njrs j k L = njr j R.length := by unfold njrs; rw [hkL, hLl]
    refine lv_istore (lv' := [(4, .int (-1)), (0, .ref h), (1, .int (nI km)), (2, .int k), (3, .int v0)]) hx hb d_md_add_21 hl (by decide) rfl (fun ls hl => ?_)
    refine lv_iload hx hb d_md_add_23 (lv_at hl 0 rfl) ?_
    refine lv_if_ge (tgt := 43) hx hb d_md_add_25 (by decide) (fun z9 => absurd z9 m1_nge) (fun _ => ?_)
    refine lv_aload_n hx hb d_md_add_28 rfl (lv_at hl 1 rfl) ?_
    refine va_get (D := D) (ci := 3) (v := .ref r) (C := R_md) (T := F_md) (N := 1) hx hb hts i_md hown hK hP 0 rfl rfl 0 (by decide) (hts _ kf_md_12) (fun _ h9 => h9) rfl d_md_add_29 ?_
    refine lv_iload_n hx hb d_md_add_32 rfl (lv_at hl 2 rfl) ?_
    refine wa_ald (k := km) (b := a) hx hb hK hP 1 2 rfl rfl hkm (by decide) hft d_md_add_33 ?_
    refine lv_iload_n hx hb d_md_add_34 rfl (lv_at hl 3 rfl) ?_
    refine lv_iload_n hx hb d_md_add_35 rfl (lv_at hl 4 rfl) ?_
    refine cg_V (hn := 2) (As := [.int k, .int v0]) (rest := []) (wr := [(h, .inr (3, [.ref r])), (r, .inl (cP, 3, .inr (.inr (.inr (.inr ft)))))]) (q0 := 0) (ci := 2) hx hb hml hown hts (c_pr_insert l D cI cT cP a qs qk qv qb qn Z K V P N fr fi la j mm R Fr Sp hPA hPN hPS hsF k v0 hno (by omega)) km_md_30 ki_pr_insert ks_pr_insert kn_pr kc_pr_insert (by decide +kernel) rfl ⟨Nat.le_of_ble_eq_true rfl, Nat.le_of_ble_eq_true rfl⟩ hK hP hD hS hA [2, 3, 4, 5, 6, 7] [0, 1] rfl (by decide) rfl (by decide) (by decide) rfl rfl hl.1 rfl (Nat.le_of_ble_eq_true rfl) d_md_add_36 ⟨Nat.le_of_eq (by show 0 + mcR j (njr j R.length) = mcR j (njrs j k L); rw [ej, Nat.zero_add]), Nat.le_of_eq (by show 0 + msR j (njr j R.length) = msR j (njrs j k L); rw [ej, Nat.zero_add])⟩ (fun v u H locs hpost hP hD hS => ?_)
    obtain ⟨e9, hT2⟩ := hpost
    subst e9
    rw [← ej] at hP hD hT2
    refine W.eq (g2 := F0 m 39 ls []) rfl ?_
    have hP : va_P D cls ([(h, .inr (3, [.ref r])), (r, .inl (cP, 3, .inr (.inr (.inr (.inr ft)))))] ++ (pw cI a (njrs j k L) u)) H := hP
    have hD : va_D A ([(h, .inr (3, [.ref r])), (r, .inl (cP, 3, .inr (.inr (.inr (.inr ft)))))] ++ (pw cI a (njrs j k L) u)) := hD
    refine W.widen (k := mcR j (njrs j k L)) (n := msR j (njrs j k L)) (Nat.le_of_eq (by rw [ej]; simp)) (Nat.le_of_eq (by rw [ej]; simp)) ?_
    refine lv_ldc2 hx hb hown (hts _ kk_md_34) d_md_add_39 ?_
    exact cg_lret (u := u) hQ hx hb hr hlk hK hP hD hS (⟨by rw [hkL]; rfl, by unfold ad; rw [hkL]; show PL _ (L ++ [(k, v0)]) u; rw [eL] at hT2 ⊢; exact hT2⟩) d_md_add_42
  · rw [e0]
    have hxn := pa_in hPA hxR
    have hkL : lk k L = some (V x) := by rw [eL, ← hke]; exact kv_at hxR hnd
    have ej : njrs j k L = j := by unfold njrs; rw [hkL]
    refine lv_istore (lv' := [(4, .int (nI x)), (0, .ref h), (1, .int (nI km)), (2, .int k), (3, .int v0)]) hx hb d_md_add_21 hl (by decide) rfl (fun ls hl => ?_)
    refine lv_iload hx hb d_md_add_23 (lv_at hl 0 rfl) ?_
    refine lv_if_ge (tgt := 43) hx hb d_md_add_25 (by decide) (fun _ => ?_) (fun z9 => absurd (nI_pos' (by omega)) z9)
    refine lv_aload_n hx hb d_md_add_43 rfl (lv_at hl 1 rfl) ?_
    refine lv_iload_n hx hb d_md_add_44 rfl (lv_at hl 2 rfl) ?_
    refine lv_iload hx hb d_md_add_45 (lv_at hl 0 rfl) ?_
    refine cg_V (hn := 2) (As := [.int (nI km), .int (nI x)]) (rest := []) (wr := []) (q0 := 0) (ci := 3) hx hb hml hown hts (c_md_use l D cI cT cP h r ft km hkm a hft qs qk qv qb qn (2 ^ (4 + j)) Z K V P N fr (nI mm) fi la (nI R.length) j mm R Fr hPA hPN hsF hnd x hxR) km_md_40 ki_md_use ks_md_use kn_md kc_md_use (by decide +kernel) rfl ⟨Nat.le_of_ble_eq_true rfl, Nat.le_of_ble_eq_true rfl⟩ hK hP hD hS hA [0, 1, 2, 3, 4, 5, 6, 7] [] rfl (by decide) rfl (by decide) (by decide) rfl rfl hl.1 rfl (Nat.le_of_ble_eq_true rfl) d_md_add_47 ⟨Nat.zero_le _, Nat.zero_le _⟩ (fun v u H locs hpost hP hD hS => ?_)
    obtain ⟨P2, N2, fi2, la2⟩ := u
    obtain ⟨e9, R2, hp2, hPN2, hsF2, ek2⟩ := hpost
    subst e9
    rw [← hp2.length_eq] at hP hD
    refine W.eq (g2 := F0 m 50 ls []) rfl ?_
    have hP : va_P D cls ([(h, .inr (3, [.ref r])), (r, .inl (cP, 3, .inr (.inr (.inr (.inr ft)))))] ++ (px cI a qs qk qv qb qn (2 ^ (4 + j)) Z K V P2 N2 (nI R2.length) fr (nI mm) fi2 la2)) H := hP
    have hD : va_D A ([(h, .inr (3, [.ref r])), (r, .inl (cP, 3, .inr (.inr (.inr (.inr ft)))))] ++ (px cI a qs qk qv qb qn (2 ^ (4 + j)) Z K V P2 N2 (nI R2.length) fr (nI mm) fi2 la2)) := hD
    have hPN2 : PN P2 N2 fi2 la2 R2 := hPN2
    have hsF2 : sg N2 fr Fr (-1) := hsF2
    refine W.widen (k := mcR j (njrs j k L)) (n := msR j (njrs j k L)) (by show 0 + 0 + 0 + 0 ≤ _; exact Nat.zero_le _) (by show 0 + 0 + 0 + 0 ≤ _; exact Nat.zero_le _) ?_
    refine lv_aload_n hx hb d_md_add_50 rfl (lv_at hl 1 rfl) ?_
    refine va_get (D := D) (ci := 3) (v := .ref r) (C := R_md) (T := F_md) (N := 1) hx hb hts i_md hown hK hP 0 rfl rfl 0 (by decide) (hts _ kf_md_12) (fun _ h9 => h9) rfl d_md_add_51 ?_
    refine lv_iload_n hx hb d_md_add_54 rfl (lv_at hl 2 rfl) ?_
    refine wa_ald (k := km) (b := a) hx hb hK hP 1 2 rfl rfl hkm (by decide) hft d_md_add_55 ?_
    refine va_get (D := D) (ci := 2) (v := .ref qv) (C := R_pr) (T := F_pr) (N := 10) hx hb hts i_pr hown hK hP 2 rfl rfl 2 (by decide) (hts _ kf_md_36) (fun _ h9 => h9) rfl d_md_add_56 ?_
    refine lv_iload hx hb d_md_add_59 (lv_at hl 0 rfl) ?_
    refine wa_ld (k := x) hx hb hK hP 5 0 rfl rfl hxn.2 hn d_md_add_61 ?_
    refine lv_i2l (v := (V x).toInt64) hx hb d_md_add_62 rfl ?_
    have ekv : ad (decide (km = 2)) k v0 L = kv K V R2 := by
      unfold ad
      rw [hkL]
      show us _ k L = _
      rw [ek2, hke, eL]
    have hP : va_P D cls ([(h, .inr (3, [.ref r])), (r, .inl (cP, 3, .inr (.inr (.inr (.inr ft)))))] ++ (pw cI a (njrs j k L) (qs, qk, qv, qb, qn, Z, K, V, P2, N2, fr, mm, fi2, la2, R2))) H := by rw [ej]; exact hP
    have hD : va_D A ([(h, .inr (3, [.ref r])), (r, .inl (cP, 3, .inr (.inr (.inr (.inr ft)))))] ++ (pw cI a (njrs j k L) (qs, qk, qv, qb, qn, Z, K, V, P2, N2, fr, mm, fi2, la2, R2))) := by rw [ej]; exact hD
    exact cg_lret (u := (qs, qk, qv, qb, qn, Z, K, V, P2, N2, fr, mm, fi2, la2, R2)) hQ hx hb hr hlk hK hP hD hS (⟨by rw [hkL]; rfl, by rw [ej]; exact ⟨Fr, Sp, pa_perm hPA hp2, hPN2, ps_perm hPS hp2, hsF2, ekv⟩⟩) d_md_add_63
set_option maxRecDepth 100000 in
set_option maxHeartbeats 4000000 in
theorem c_md_add_x (l : Launch) (D : va_G) (cI cT cP : ClassId) (h r : Nat) (q : Int32) (hq : bad q) (k v0 : Int32) : Cg l y_md_add b_md_add 5 (some .long) 4 0 0 D (ty3 cI cT cP) [.ref h, .int q, .int k, .int v0] ([(h, .inr (3, [.ref r]))]) (fun (v : Option Value) (u : Unit) => v = some (.long 1099511627777)) (fun u => [(h, .inr (3, [.ref r]))]) := by
  refine cg_enter rfl (Nat.le_of_ble_eq_true rfl) ?_
  intro p e s m below meth c args hx hb hr hlk hml hown hin hts A hA hK hP hD hS ls hl Q hQ
  have hl : lv_has ls 5 [(0, .ref h), (1, .int q), (2, .int k), (3, .int v0)] := hl
  have hP : va_P D cls ([(h, .inr (3, [.ref r]))]) s.heap := hP
  have hD : va_D A ([(h, .inr (3, [.ref r]))]) := hD
  refine lv_iload_n hx hb d_md_add_0 rfl (lv_at hl 1 rfl) ?_
  refine cg_S (hn := 1) (As := [.int q]) (rest := []) (wr := [(h, .inr (3, [.ref r]))]) hx hb hml hown hts (c_md_isMap_x l D cI cT cP q hq) km_md_20 kt_md_isMap kn_md kc_md_isMap (by decide +kernel) rfl ⟨Nat.le_of_ble_eq_true rfl, Nat.le_of_ble_eq_true rfl⟩ hK hP hD hS hA [] [0] rfl (by decide) rfl (by decide) (by decide) hl.1 rfl (Nat.le_of_ble_eq_true rfl) d_md_add_1 ⟨Nat.zero_le _, Nat.zero_le _⟩ (fun v u H locs hpost hP hD hS => ?_)
  subst hpost
  refine W.eq (g2 := F0 m 4 ls [.int 0]) rfl ?_
  have hP : va_P D cls ([(h, .inr (3, [.ref r]))]) H := hP
  have hD : va_D A ([(h, .inr (3, [.ref r]))]) := hD
  refine lv_if_ne (tgt := 11) hx hb d_md_add_4 (by decide) (fun z9 => absurd rfl z9) (fun _ => ?_)
  refine lv_ldc2 hx hb hown (hts _ kk_md_24) d_md_add_7 ?_
  exact cg_lret (u := ()) hQ hx hb hr hlk hK hP hD hS rfl d_md_add_10
set_option maxRecDepth 100000 in
set_option maxHeartbeats 4000000 in
/-- get -/
theorem c_md_get (l : Launch) (D : va_G) (cI cT cP : ClassId) (h r : Nat) (ft : Nat → Option Nat) (km : Nat) (hkm : km < 3) (a : Nat) (hft : ft km = some a) (j : Nat) (L : List (Int32 × Int32)) (u0 : PB) (hL : PL j L u0) (k : Int32) : Cg l y_md_get b_md_get 4 (some .long) 3 0 0 D (ty3 cI cT cP) [.ref h, .int (nI km), .int k] ([(h, .inr (3, [.ref r])), (r, .inl (cP, 3, .inr (.inr (.inr (.inr ft)))))] ++ (pw cI a j u0)) (fun (v : Option Value) (u : PB) => v = some (.long (an (lk k L))) ∧ PL j (us (decide (km = 2)) k L) u) (fun u => [(h, .inr (3, [.ref r])), (r, .inl (cP, 3, .inr (.inr (.inr (.inr ft)))))] ++ (pw cI a j u)) := by
  obtain ⟨qs, qk, qv, qb, qn, Z, K, V, P, N, fr, mm, fi, la, R⟩ := u0
  obtain ⟨Fr, Sp, hPA, hPN, hPS, hsF, eL⟩ := hL
  have hPA : PA (2 ^ (4 + j)) j mm R Fr := hPA
  have hPN : PN P N fi la R := hPN
  have hPS : PS K Z R Sp := hPS
  have hsF : sg N fr Fr (-1) := hsF
  have eL : L = kv K V R := eL
  have hLl : L.length = R.length := by rw [eL]; exact List.length_map ..
  have hpn := pa_n hPA
  have hn : 2 ^ (4 + j) < 2 ^ 31 := by omega
  have hSl : Sp.length = R.length := hPS.1.length_eq
  have hin2 : ∀ x, x ∈ Sp → x < 2 ^ (4 + j) := fun x hx1 => (pa_in hPA (hPS.1.mem_iff.mp hx1)).2
  have hnd := ps_nd hPS
  refine cg_enter rfl (Nat.le_of_ble_eq_true rfl) ?_
  intro p e s m below meth c args hx hb hr hlk hml hown hin hts A hA hK hP hD hS ls hl Q hQ
  have hl : lv_has ls 4 [(0, .ref h), (1, .int (nI km)), (2, .int k)] := hl
  have hP : va_P D cls ([(h, .inr (3, [.ref r])), (r, .inl (cP, 3, .inr (.inr (.inr (.inr ft)))))] ++ (px cI a qs qk qv qb qn (2 ^ (4 + j)) Z K V P N (nI R.length) fr (nI mm) fi la)) s.heap := hP
  have hD : va_D A ([(h, .inr (3, [.ref r])), (r, .inl (cP, 3, .inr (.inr (.inr (.inr ft)))))] ++ (px cI a qs qk qv qb qn (2 ^ (4 + j)) Z K V P N (nI R.length) fr (nI mm) fi la)) := hD
  refine lv_iload_n hx hb d_md_get_0 rfl (lv_at hl 1 rfl) ?_
  refine cg_S (hn := 1) (As := [.int (nI km)]) (rest := []) (wr := [(h, .inr (3, [.ref r])), (r, .inl (cP, 3, .inr (.inr (.inr (.inr ft)))))] ++ (px cI a qs qk qv qb qn (2 ^ (4 + j)) Z K V P N (nI R.length) fr (nI mm) fi la)) hx hb hml hown hts (c_md_isMap l D cI cT cP km hkm) km_md_20 kt_md_isMap kn_md kc_md_isMap (by decide +kernel) rfl ⟨Nat.le_of_ble_eq_true rfl, Nat.le_of_ble_eq_true rfl⟩ hK hP hD hS hA [] [0, 1, 2, 3, 4, 5, 6, 7] rfl (by decide) rfl (by decide) (by decide) hl.1 rfl (Nat.le_of_ble_eq_true rfl) d_md_get_1 ⟨Nat.zero_le _, Nat.zero_le _⟩ (fun v u H locs hpost hP hD hS => ?_)
  subst hpost
  refine W.eq (g2 := F0 m 4 ls [.int 1]) rfl ?_
  have hP : va_P D cls ([(h, .inr (3, [.ref r])), (r, .inl (cP, 3, .inr (.inr (.inr (.inr ft)))))] ++ (px cI a qs qk qv qb qn (2 ^ (4 + j)) Z K V P N (nI R.length) fr (nI mm) fi la)) H := hP
  have hD : va_D A ([(h, .inr (3, [.ref r])), (r, .inl (cP, 3, .inr (.inr (.inr (.inr ft)))))] ++ (px cI a qs qk qv qb qn (2 ^ (4 + j)) Z K V P N (nI R.length) fr (nI mm) fi la)) := hD
  refine lv_if_ne (tgt := 11) hx hb d_md_get_4 (by decide) (fun _ => ?_) (fun z9 => absurd z9 (by decide))
  refine lv_aload_n hx hb d_md_get_11 rfl (lv_at hl 0 rfl) ?_
  refine va_get (D := D) (ci := 3) (v := .ref r) (C := R_md) (T := F_md) (N := 1) hx hb hts i_md hown hK hP 0 rfl rfl 0 (by decide) (hts _ kf_md_12) (fun _ h9 => h9) rfl d_md_get_12 ?_
  refine lv_iload_n hx hb d_md_get_15 rfl (lv_at hl 1 rfl) ?_
  refine wa_ald (k := km) (b := a) hx hb hK hP 1 2 rfl rfl hkm (by decide) hft d_md_get_16 ?_
  refine lv_iload_n hx hb d_md_get_17 rfl (lv_at hl 2 rfl) ?_
  refine cg_V (hn := 1) (As := [.int k]) (rest := []) (wr := [(h, .inr (3, [.ref r])), (r, .inl (cP, 3, .inr (.inr (.inr (.inr ft)))))]) (q0 := 0) (ci := 2) hx hb hml hown hts (c_pr_find l D cI cT cP a qs qk qv qb qn (2 ^ (4 + j)) Z K V P N fr (nI mm) fi la j mm R Fr Sp hPA hPS k) km_md_26 ki_pr_find ks_pr_find kn_pr kc_pr_find (by decide +kernel) rfl ⟨Nat.le_of_ble_eq_true rfl, Nat.le_of_ble_eq_true rfl⟩ hK hP hD hS hA [2, 3, 4, 5, 6, 7] [0, 1] rfl (by decide) rfl (by decide) (by decide) rfl rfl hl.1 rfl (Nat.le_of_ble_eq_true rfl) d_md_get_18 ⟨Nat.zero_le _, Nat.zero_le _⟩ (fun v u H locs hpost hP hD hS => ?_)
  subst hpost
  refine W.eq (g2 := F0 m 21 ls [.int (io (so K k R))]) rfl ?_
  have hP : va_P D cls ([(h, .inr (3, [.ref r])), (r, .inl (cP, 3, .inr (.inr (.inr (.inr ft)))))] ++ (px cI a qs qk qv qb qn (2 ^ (4 + j)) Z K V P N (nI R.length) fr (nI mm) fi la)) H := hP
  have hD : va_D A ([(h, .inr (3, [.ref r])), (r, .inl (cP, 3, .inr (.inr (.inr (.inr ft)))))] ++ (px cI a qs qk qv qb qn (2 ^ (4 + j)) Z K V P N (nI R.length) fr (nI mm) fi la)) := hD
  rcases so_cases K k R with ⟨e0, hno⟩ | ⟨x, e0, hxR, hke⟩
  · rw [e0]
    have hkL : lk k L = none := by rw [eL]; exact kv_out hno
    refine lv_istore_n (lv' := [(3, .int (-1)), (0, .ref h), (1, .int (nI km)), (2, .int k)]) hx hb d_md_get_21 rfl hl (by decide) rfl (fun ls hl => ?_)
    refine lv_iload_n hx hb d_md_get_22 rfl (lv_at hl 0 rfl) ?_
    refine lv_if_ge (tgt := 30) hx hb d_md_get_23 (by decide) (fun z9 => absurd z9 m1_nge) (fun _ => ?_)
    refine lv_ldc2 hx hb hown (hts _ kk_md_34) d_md_get_26 ?_
    exact cg_lret (u := (qs, qk, qv, qb, qn, Z, K, V, P, N, fr, mm, fi, la, R)) hQ hx hb hr hlk hK hP hD hS (⟨by rw [hkL]; rfl, by rw [us_none hkL]; exact ⟨Fr, Sp, hPA, hPN, hPS, hsF, eL⟩⟩) d_md_get_29
  · rw [e0]
    have hxn := pa_in hPA hxR
    have hkL : lk k L = some (V x) := by rw [eL, ← hke]; exact kv_at hxR hnd
    refine lv_istore_n (lv' := [(3, .int (nI x)), (0, .ref h), (1, .int (nI km)), (2, .int k)]) hx hb d_md_get_21 rfl hl (by decide) rfl (fun ls hl => ?_)
    refine lv_iload_n hx hb d_md_get_22 rfl (lv_at hl 0 rfl) ?_
    refine lv_if_ge (tgt := 30) hx hb d_md_get_23 (by decide) (fun _ => ?_) (fun z9 => absurd (nI_pos' (by omega)) z9)
    refine lv_aload_n hx hb d_md_get_30 rfl (lv_at hl 1 rfl) ?_
    refine lv_iload_n hx hb d_md_get_31 rfl (lv_at hl 2 rfl) ?_
    refine lv_iload_n hx hb d_md_get_32 rfl (lv_at hl 0 rfl) ?_
    refine cg_V (hn := 2) (As := [.int (nI km), .int (nI x)]) (rest := []) (wr := []) (q0 := 0) (ci := 3) hx hb hml hown hts (c_md_use l D cI cT cP h r ft km hkm a hft qs qk qv qb qn (2 ^ (4 + j)) Z K V P N fr (nI mm) fi la (nI R.length) j mm R Fr hPA hPN hsF hnd x hxR) km_md_40 ki_md_use ks_md_use kn_md kc_md_use (by decide +kernel) rfl ⟨Nat.le_of_ble_eq_true rfl, Nat.le_of_ble_eq_true rfl⟩ hK hP hD hS hA [0, 1, 2, 3, 4, 5, 6, 7] [] rfl (by decide) rfl (by decide) (by decide) rfl rfl hl.1 rfl (Nat.le_of_ble_eq_true rfl) d_md_get_33 ⟨Nat.zero_le _, Nat.zero_le _⟩ (fun v u H locs hpost hP hD hS => ?_)
    obtain ⟨P2, N2, fi2, la2⟩ := u
    obtain ⟨e9, R2, hp2, hPN2, hsF2, ek2⟩ := hpost
    subst e9
    rw [← hp2.length_eq] at hP hD
    refine W.eq (g2 := F0 m 36 ls []) rfl ?_
    have hP : va_P D cls ([(h, .inr (3, [.ref r])), (r, .inl (cP, 3, .inr (.inr (.inr (.inr ft)))))] ++ (px cI a qs qk qv qb qn (2 ^ (4 + j)) Z K V P2 N2 (nI R2.length) fr (nI mm) fi2 la2)) H := hP
    have hD : va_D A ([(h, .inr (3, [.ref r])), (r, .inl (cP, 3, .inr (.inr (.inr (.inr ft)))))] ++ (px cI a qs qk qv qb qn (2 ^ (4 + j)) Z K V P2 N2 (nI R2.length) fr (nI mm) fi2 la2)) := hD
    have hPN2 : PN P2 N2 fi2 la2 R2 := hPN2
    have hsF2 : sg N2 fr Fr (-1) := hsF2
    refine lv_aload_n hx hb d_md_get_36 rfl (lv_at hl 1 rfl) ?_
    refine va_get (D := D) (ci := 3) (v := .ref r) (C := R_md) (T := F_md) (N := 1) hx hb hts i_md hown hK hP 0 rfl rfl 0 (by decide) (hts _ kf_md_12) (fun _ h9 => h9) rfl d_md_get_37 ?_
    refine lv_iload_n hx hb d_md_get_40 rfl (lv_at hl 2 rfl) ?_
    refine wa_ald (k := km) (b := a) hx hb hK hP 1 2 rfl rfl hkm (by decide) hft d_md_get_41 ?_
    refine va_get (D := D) (ci := 2) (v := .ref qv) (C := R_pr) (T := F_pr) (N := 10) hx hb hts i_pr hown hK hP 2 rfl rfl 2 (by decide) (hts _ kf_md_36) (fun _ h9 => h9) rfl d_md_get_42 ?_
    refine lv_iload_n hx hb d_md_get_45 rfl (lv_at hl 0 rfl) ?_
    refine wa_ld (k := x) hx hb hK hP 5 0 rfl rfl hxn.2 hn d_md_get_46 ?_
    refine lv_i2l (v := (V x).toInt64) hx hb d_md_get_47 rfl ?_
    exact cg_lret (u := (qs, qk, qv, qb, qn, Z, K, V, P2, N2, fr, mm, fi2, la2, R2)) hQ hx hb hr hlk hK hP hD hS (⟨by rw [hkL]; rfl, Fr, Sp, pa_perm hPA hp2, hPN2, ps_perm hPS hp2, hsF2, by rw [eL, ← hke]; exact ek2.symm⟩) d_md_get_48
set_option maxRecDepth 100000 in
set_option maxHeartbeats 4000000 in
theorem c_md_get_x (l : Launch) (D : va_G) (cI cT cP : ClassId) (h r : Nat) (q : Int32) (hq : bad q) (k : Int32) : Cg l y_md_get b_md_get 4 (some .long) 3 0 0 D (ty3 cI cT cP) [.ref h, .int q, .int k] ([(h, .inr (3, [.ref r]))]) (fun (v : Option Value) (u : Unit) => v = some (.long 1099511627777)) (fun u => [(h, .inr (3, [.ref r]))]) := by
  refine cg_enter rfl (Nat.le_of_ble_eq_true rfl) ?_
  intro p e s m below meth c args hx hb hr hlk hml hown hin hts A hA hK hP hD hS ls hl Q hQ
  have hl : lv_has ls 4 [(0, .ref h), (1, .int q), (2, .int k)] := hl
  have hP : va_P D cls ([(h, .inr (3, [.ref r]))]) s.heap := hP
  have hD : va_D A ([(h, .inr (3, [.ref r]))]) := hD
  refine lv_iload_n hx hb d_md_get_0 rfl (lv_at hl 1 rfl) ?_
  refine cg_S (hn := 1) (As := [.int q]) (rest := []) (wr := [(h, .inr (3, [.ref r]))]) hx hb hml hown hts (c_md_isMap_x l D cI cT cP q hq) km_md_20 kt_md_isMap kn_md kc_md_isMap (by decide +kernel) rfl ⟨Nat.le_of_ble_eq_true rfl, Nat.le_of_ble_eq_true rfl⟩ hK hP hD hS hA [] [0] rfl (by decide) rfl (by decide) (by decide) hl.1 rfl (Nat.le_of_ble_eq_true rfl) d_md_get_1 ⟨Nat.zero_le _, Nat.zero_le _⟩ (fun v u H locs hpost hP hD hS => ?_)
  subst hpost
  refine W.eq (g2 := F0 m 4 ls [.int 0]) rfl ?_
  have hP : va_P D cls ([(h, .inr (3, [.ref r]))]) H := hP
  have hD : va_D A ([(h, .inr (3, [.ref r]))]) := hD
  refine lv_if_ne (tgt := 11) hx hb d_md_get_4 (by decide) (fun z9 => absurd rfl z9) (fun _ => ?_)
  refine lv_ldc2 hx hb hown (hts _ kk_md_24) d_md_get_7 ?_
  exact cg_lret (u := ()) hQ hx hb hr hlk hK hP hD hS rfl d_md_get_10
set_option maxRecDepth 100000 in
set_option maxHeartbeats 4000000 in
/-- give -/
theorem c_md_give (l : Launch) (D : va_G) (cI cT cP : ClassId) (h r : Nat) (ft : Nat → Option Nat) (km : Nat) (hkm : km < 3) (a : Nat) (hft : ft km = some a) (j : Nat) (L : List (Int32 × Int32)) (u0 : PB) (hL : PL j L u0) (k o : Int32) : Cg l y_md_give b_md_give 6 (some .long) 4 0 0 D (ty3 cI cT cP) [.ref h, .int (nI km), .int k, .int o] ([(h, .inr (3, [.ref r])), (r, .inl (cP, 3, .inr (.inr (.inr (.inr ft)))))] ++ (pw cI a j u0)) (fun (v : Option Value) (u : PB) => v = some (.long (gv o (lk k L))) ∧ PL j (us (decide (km = 2)) k L) u) (fun u => [(h, .inr (3, [.ref r])), (r, .inl (cP, 3, .inr (.inr (.inr (.inr ft)))))] ++ (pw cI a j u)) := by
  refine cg_enter rfl (Nat.le_of_ble_eq_true rfl) ?_
  intro p e s m below meth c args hx hb hr hlk hml hown hin hts A hA hK hP hD hS ls hl Q hQ
  have hl : lv_has ls 6 [(0, .ref h), (1, .int (nI km)), (2, .int k), (3, .int o)] := hl
  have hP : va_P D cls ([(h, .inr (3, [.ref r])), (r, .inl (cP, 3, .inr (.inr (.inr (.inr ft)))))] ++ (pw cI a j u0)) s.heap := hP
  have hD : va_D A ([(h, .inr (3, [.ref r])), (r, .inl (cP, 3, .inr (.inr (.inr (.inr ft)))))] ++ (pw cI a j u0)) := hD
  refine lv_aload_n hx hb d_md_give_0 rfl (lv_at hl 0 rfl) ?_
  refine lv_iload_n hx hb d_md_give_1 rfl (lv_at hl 1 rfl) ?_
  refine lv_iload_n hx hb d_md_give_2 rfl (lv_at hl 2 rfl) ?_
  refine cg_V (hn := 2) (As := [.int (nI km), .int k]) (rest := []) (wr := []) (q0 := 0) (ci := 3) hx hb hml hown hts (c_md_get l D cI cT cP h r ft km hkm a hft j L u0 hL k) km_md_43 ki_md_get ks_md_get kn_md kc_md_get (by decide +kernel) rfl ⟨Nat.le_of_ble_eq_true rfl, Nat.le_of_ble_eq_true rfl⟩ hK hP hD hS hA [0, 1, 2, 3, 4, 5, 6, 7] [] rfl (by decide) rfl (by decide) (by decide) rfl rfl hl.1 rfl (Nat.le_of_ble_eq_true rfl) d_md_give_3 ⟨Nat.zero_le _, Nat.zero_le _⟩ (fun v u H locs hpost hP hD hS => ?_)
  obtain ⟨e9, hT2⟩ := hpost
  subst e9
  refine W.eq (g2 := F0 m 6 ls [.long (an (lk k L))]) rfl ?_
  have hP : va_P D cls ([(h, .inr (3, [.ref r])), (r, .inl (cP, 3, .inr (.inr (.inr (.inr ft)))))] ++ (pw cI a j u)) H := hP
  have hD : va_D A ([(h, .inr (3, [.ref r])), (r, .inl (cP, 3, .inr (.inr (.inr (.inr ft)))))] ++ (pw cI a j u)) := hD
  refine lv_lstore (lv' := [(4, .long (an (lk k L))), (0, .ref h), (1, .int (nI km)), (2, .int k), (3, .int o)]) hx hb d_md_give_6 hl (by decide) rfl (fun ls hl => ?_)
  refine lv_lload hx hb d_md_give_8 (lv_at hl 0 rfl) ?_
  refine lv_ldc2 hx hb hown (hts _ kk_md_34) d_md_give_10 ?_
  refine W.lcmp hx hb d_md_give_13 ?_
  refine lv_if_ne (tgt := 22) hx hb d_md_give_14 (by decide) (fun c1 => ?_) (fun c1 => ?_)
  · refine lv_lload hx hb d_md_give_22 (lv_at hl 0 rfl) ?_
    exact cg_lret (u := u) hQ hx hb hr hlk hK hP hD hS (⟨by rw [gv_an, if_neg (fun z9 => c1 (lg_eq.mpr z9))], hT2⟩) d_md_give_24
  · refine lv_iload_n hx hb d_md_give_17 rfl (lv_at hl 4 rfl) ?_
    refine lv_i2l (v := o.toInt64) hx hb d_md_give_18 rfl ?_
    refine lv_goto (tgt := 24) hx hb d_md_give_19 (by decide) ?_
    exact cg_lret (u := u) hQ hx hb hr hlk hK hP hD hS (⟨by rw [gv_an, if_pos (lg_eq.mp c1)], hT2⟩) d_md_give_24
set_option maxRecDepth 100000 in
set_option maxHeartbeats 4000000 in
theorem c_md_give_x (l : Launch) (D : va_G) (cI cT cP : ClassId) (h r : Nat) (q : Int32) (hq : bad q) (k o : Int32) : Cg l y_md_give b_md_give 6 (some .long) 4 0 0 D (ty3 cI cT cP) [.ref h, .int q, .int k, .int o] ([(h, .inr (3, [.ref r]))]) (fun (v : Option Value) (u : Unit) => v = some (.long 1099511627777)) (fun u => [(h, .inr (3, [.ref r]))]) := by
  refine cg_enter rfl (Nat.le_of_ble_eq_true rfl) ?_
  intro p e s m below meth c args hx hb hr hlk hml hown hin hts A hA hK hP hD hS ls hl Q hQ
  have hl : lv_has ls 6 [(0, .ref h), (1, .int q), (2, .int k), (3, .int o)] := hl
  have hP : va_P D cls ([(h, .inr (3, [.ref r]))]) s.heap := hP
  have hD : va_D A ([(h, .inr (3, [.ref r]))]) := hD
  refine lv_aload_n hx hb d_md_give_0 rfl (lv_at hl 0 rfl) ?_
  refine lv_iload_n hx hb d_md_give_1 rfl (lv_at hl 1 rfl) ?_
  refine lv_iload_n hx hb d_md_give_2 rfl (lv_at hl 2 rfl) ?_
  refine cg_V (hn := 2) (As := [.int q, .int k]) (rest := []) (wr := []) (q0 := 0) (ci := 3) hx hb hml hown hts (c_md_get_x l D cI cT cP h r q hq k) km_md_43 ki_md_get ks_md_get kn_md kc_md_get (by decide +kernel) rfl ⟨Nat.le_of_ble_eq_true rfl, Nat.le_of_ble_eq_true rfl⟩ hK hP hD hS hA [0] [] rfl (by decide) rfl (by decide) (by decide) rfl rfl hl.1 rfl (Nat.le_of_ble_eq_true rfl) d_md_give_3 ⟨Nat.zero_le _, Nat.zero_le _⟩ (fun v u H locs hpost hP hD hS => ?_)
  subst hpost
  refine W.eq (g2 := F0 m 6 ls [.long 1099511627777]) rfl ?_
  have hP : va_P D cls ([(h, .inr (3, [.ref r]))]) H := hP
  have hD : va_D A ([(h, .inr (3, [.ref r]))]) := hD
  refine lv_lstore (lv' := [(4, .long 1099511627777), (0, .ref h), (1, .int q), (2, .int k), (3, .int o)]) hx hb d_md_give_6 hl (by decide) rfl (fun ls hl => ?_)
  refine lv_lload hx hb d_md_give_8 (lv_at hl 0 rfl) ?_
  refine lv_ldc2 hx hb hown (hts _ kk_md_34) d_md_give_10 ?_
  refine W.lcmp hx hb d_md_give_13 ?_
  refine lv_if_ne (tgt := 22) hx hb d_md_give_14 (by decide) (fun _ => ?_) (fun z9 => absurd z9 (by decide))
  refine lv_lload hx hb d_md_give_22 (lv_at hl 0 rfl) ?_
  exact cg_lret (u := ()) hQ hx hb hr hlk hK hP hD hS rfl d_md_give_24
set_option maxRecDepth 100000 in
set_option maxHeartbeats 4000000 in
/-- remove -/
theorem c_md_remove (l : Launch) (D : va_G) (cI cT cP : ClassId) (h r : Nat) (ft : Nat → Option Nat) (km : Nat) (hkm : km < 3) (a : Nat) (hft : ft km = some a) (j : Nat) (L : List (Int32 × Int32)) (u0 : PB) (hL : PL j L u0) (k : Int32) : Cg l y_md_remove b_md_remove 5 (some .long) 2 0 0 D (ty3 cI cT cP) [.ref h, .int (nI km), .int k] ([(h, .inr (3, [.ref r])), (r, .inl (cP, 3, .inr (.inr (.inr (.inr ft)))))] ++ (pw cI a j u0)) (fun (v : Option Value) (u : PB) => v = some (.long (an (lk k L))) ∧ PL j (del k L) u) (fun u => [(h, .inr (3, [.ref r])), (r, .inl (cP, 3, .inr (.inr (.inr (.inr ft)))))] ++ (pw cI a j u)) := by
  obtain ⟨qs, qk, qv, qb, qn, Z, K, V, P, N, fr, mm, fi, la, R⟩ := u0
  obtain ⟨Fr, Sp, hPA, hPN, hPS, hsF, eL⟩ := hL
  have hPA : PA (2 ^ (4 + j)) j mm R Fr := hPA
  have hPN : PN P N fi la R := hPN
  have hPS : PS K Z R Sp := hPS
  have hsF : sg N fr Fr (-1) := hsF
  have eL : L = kv K V R := eL
  have hLl : L.length = R.length := by rw [eL]; exact List.length_map ..
  have hpn := pa_n hPA
  have hn : 2 ^ (4 + j) < 2 ^ 31 := by omega
  have hSl : Sp.length = R.length := hPS.1.length_eq
  have hin2 : ∀ x, x ∈ Sp → x < 2 ^ (4 + j) := fun x hx1 => (pa_in hPA (hPS.1.mem_iff.mp hx1)).2
  have hnd := ps_nd hPS
  refine cg_enter rfl (Nat.le_of_ble_eq_true rfl) ?_
  intro p e s m below meth c args hx hb hr hlk hml hown hin hts A hA hK hP hD hS ls hl Q hQ
  have hl : lv_has ls 5 [(0, .ref h), (1, .int (nI km)), (2, .int k)] := hl
  have hP : va_P D cls ([(h, .inr (3, [.ref r])), (r, .inl (cP, 3, .inr (.inr (.inr (.inr ft)))))] ++ (px cI a qs qk qv qb qn (2 ^ (4 + j)) Z K V P N (nI R.length) fr (nI mm) fi la)) s.heap := hP
  have hD : va_D A ([(h, .inr (3, [.ref r])), (r, .inl (cP, 3, .inr (.inr (.inr (.inr ft)))))] ++ (px cI a qs qk qv qb qn (2 ^ (4 + j)) Z K V P N (nI R.length) fr (nI mm) fi la)) := hD
  refine lv_iload_n hx hb d_md_remove_0 rfl (lv_at hl 1 rfl) ?_
  refine cg_S (hn := 1) (As := [.int (nI km)]) (rest := []) (wr := [(h, .inr (3, [.ref r])), (r, .inl (cP, 3, .inr (.inr (.inr (.inr ft)))))] ++ (px cI a qs qk qv qb qn (2 ^ (4 + j)) Z K V P N (nI R.length) fr (nI mm) fi la)) hx hb hml hown hts (c_md_isMap l D cI cT cP km hkm) km_md_20 kt_md_isMap kn_md kc_md_isMap (by decide +kernel) rfl ⟨Nat.le_of_ble_eq_true rfl, Nat.le_of_ble_eq_true rfl⟩ hK hP hD hS hA [] [0, 1, 2, 3, 4, 5, 6, 7] rfl (by decide) rfl (by decide) (by decide) hl.1 rfl (Nat.le_of_ble_eq_true rfl) d_md_remove_1 ⟨Nat.zero_le _, Nat.zero_le _⟩ (fun v u H locs hpost hP hD hS => ?_)
  subst hpost
  refine W.eq (g2 := F0 m 4 ls [.int 1]) rfl ?_
  have hP : va_P D cls ([(h, .inr (3, [.ref r])), (r, .inl (cP, 3, .inr (.inr (.inr (.inr ft)))))] ++ (px cI a qs qk qv qb qn (2 ^ (4 + j)) Z K V P N (nI R.length) fr (nI mm) fi la)) H := hP
  have hD : va_D A ([(h, .inr (3, [.ref r])), (r, .inl (cP, 3, .inr (.inr (.inr (.inr ft)))))] ++ (px cI a qs qk qv qb qn (2 ^ (4 + j)) Z K V P N (nI R.length) fr (nI mm) fi la)) := hD
  refine lv_if_ne (tgt := 11) hx hb d_md_remove_4 (by decide) (fun _ => ?_) (fun z9 => absurd z9 (by decide))
  refine lv_aload_n hx hb d_md_remove_11 rfl (lv_at hl 0 rfl) ?_
  refine va_get (D := D) (ci := 3) (v := .ref r) (C := R_md) (T := F_md) (N := 1) hx hb hts i_md hown hK hP 0 rfl rfl 0 (by decide) (hts _ kf_md_12) (fun _ h9 => h9) rfl d_md_remove_12 ?_
  refine lv_iload_n hx hb d_md_remove_15 rfl (lv_at hl 1 rfl) ?_
  refine wa_ald (k := km) (b := a) hx hb hK hP 1 2 rfl rfl hkm (by decide) hft d_md_remove_16 ?_
  refine lv_iload_n hx hb d_md_remove_17 rfl (lv_at hl 2 rfl) ?_
  refine cg_V (hn := 1) (As := [.int k]) (rest := []) (wr := [(h, .inr (3, [.ref r])), (r, .inl (cP, 3, .inr (.inr (.inr (.inr ft)))))]) (q0 := 0) (ci := 2) hx hb hml hown hts (c_pr_find l D cI cT cP a qs qk qv qb qn (2 ^ (4 + j)) Z K V P N fr (nI mm) fi la j mm R Fr Sp hPA hPS k) km_md_26 ki_pr_find ks_pr_find kn_pr kc_pr_find (by decide +kernel) rfl ⟨Nat.le_of_ble_eq_true rfl, Nat.le_of_ble_eq_true rfl⟩ hK hP hD hS hA [2, 3, 4, 5, 6, 7] [0, 1] rfl (by decide) rfl (by decide) (by decide) rfl rfl hl.1 rfl (Nat.le_of_ble_eq_true rfl) d_md_remove_18 ⟨Nat.zero_le _, Nat.zero_le _⟩ (fun v u H locs hpost hP hD hS => ?_)
  subst hpost
  refine W.eq (g2 := F0 m 21 ls [.int (io (so K k R))]) rfl ?_
  have hP : va_P D cls ([(h, .inr (3, [.ref r])), (r, .inl (cP, 3, .inr (.inr (.inr (.inr ft)))))] ++ (px cI a qs qk qv qb qn (2 ^ (4 + j)) Z K V P N (nI R.length) fr (nI mm) fi la)) H := hP
  have hD : va_D A ([(h, .inr (3, [.ref r])), (r, .inl (cP, 3, .inr (.inr (.inr (.inr ft)))))] ++ (px cI a qs qk qv qb qn (2 ^ (4 + j)) Z K V P N (nI R.length) fr (nI mm) fi la)) := hD
  rcases so_cases K k R with ⟨e0, hno⟩ | ⟨x, e0, hxR, hke⟩
  · rw [e0]
    have hkL : lk k L = none := by rw [eL]; exact kv_out hno
    refine lv_istore_n (lv' := [(3, .int (-1)), (0, .ref h), (1, .int (nI km)), (2, .int k)]) hx hb d_md_remove_21 rfl hl (by decide) rfl (fun ls hl => ?_)
    refine lv_iload_n hx hb d_md_remove_22 rfl (lv_at hl 0 rfl) ?_
    refine lv_if_ge (tgt := 30) hx hb d_md_remove_23 (by decide) (fun z9 => absurd z9 m1_nge) (fun _ => ?_)
    refine lv_ldc2 hx hb hown (hts _ kk_md_34) d_md_remove_26 ?_
    exact cg_lret (u := (qs, qk, qv, qb, qn, Z, K, V, P, N, fr, mm, fi, la, R)) hQ hx hb hr hlk hK hP hD hS (⟨by rw [hkL]; rfl, by rw [del_out (lk_key.mp hkL)]; exact ⟨Fr, Sp, hPA, hPN, hPS, hsF, eL⟩⟩) d_md_remove_29
  · rw [e0]
    have hxn := pa_in hPA hxR
    have hkL : lk k L = some (V x) := by rw [eL, ← hke]; exact kv_at hxR hnd
    refine lv_istore_n (lv' := [(3, .int (nI x)), (0, .ref h), (1, .int (nI km)), (2, .int k)]) hx hb d_md_remove_21 rfl hl (by decide) rfl (fun ls hl => ?_)
    refine lv_iload_n hx hb d_md_remove_22 rfl (lv_at hl 0 rfl) ?_
    refine lv_if_ge (tgt := 30) hx hb d_md_remove_23 (by decide) (fun _ => ?_) (fun z9 => absurd (nI_pos' (by omega)) z9)
    refine lv_aload_n hx hb d_md_remove_30 rfl (lv_at hl 1 rfl) ?_
    refine va_get (D := D) (ci := 3) (v := .ref r) (C := R_md) (T := F_md) (N := 1) hx hb hts i_md hown hK hP 0 rfl rfl 0 (by decide) (hts _ kf_md_12) (fun _ h9 => h9) rfl d_md_remove_31 ?_
    refine lv_iload_n hx hb d_md_remove_34 rfl (lv_at hl 2 rfl) ?_
    refine wa_ald (k := km) (b := a) hx hb hK hP 1 2 rfl rfl hkm (by decide) hft d_md_remove_35 ?_
    refine va_get (D := D) (ci := 2) (v := .ref qv) (C := R_pr) (T := F_pr) (N := 10) hx hb hts i_pr hown hK hP 2 rfl rfl 2 (by decide) (hts _ kf_md_36) (fun _ h9 => h9) rfl d_md_remove_36 ?_
    refine lv_iload_n hx hb d_md_remove_39 rfl (lv_at hl 0 rfl) ?_
    refine wa_ld (k := x) hx hb hK hP 5 0 rfl rfl hxn.2 hn d_md_remove_40 ?_
    refine lv_istore (lv' := [(4, .int (V x)), (3, .int (nI x)), (0, .ref h), (1, .int (nI km)), (2, .int k)]) hx hb d_md_remove_41 hl (by decide) rfl (fun ls hl => ?_)
    refine lv_aload_n hx hb d_md_remove_43 rfl (lv_at hl 2 rfl) ?_
    refine va_get (D := D) (ci := 3) (v := .ref r) (C := R_md) (T := F_md) (N := 1) hx hb hts i_md hown hK hP 0 rfl rfl 0 (by decide) (hts _ kf_md_12) (fun _ h9 => h9) rfl d_md_remove_44 ?_
    refine lv_iload_n hx hb d_md_remove_47 rfl (lv_at hl 3 rfl) ?_
    refine wa_ald (k := km) (b := a) hx hb hK hP 1 2 rfl rfl hkm (by decide) hft d_md_remove_48 ?_
    refine lv_iload_n hx hb d_md_remove_49 rfl (lv_at hl 1 rfl) ?_
    obtain ⟨l1, l2, eR⟩ := List.append_of_mem hxR
    subst eR
    have hdel : del (K x) L = kv K V (l1 ++ l2) := by rw [eL]; exact (kv_split hnd).2.1
    refine cg_V (hn := 1) (As := [.int (nI x)]) (rest := []) (wr := [(h, .inr (3, [.ref r])), (r, .inl (cP, 3, .inr (.inr (.inr (.inr ft)))))]) (q0 := 0) (ci := 2) hx hb hml hown hts (c_pr_delete l D cI cT cP a qs qk qv qb qn (2 ^ (4 + j)) Z K V P N fr (nI mm) fi la j mm x l1 l2 Fr Sp hPA hPN hPS hsF) km_md_47 ki_pr_delete ks_pr_delete kn_pr kc_pr_delete (by decide +kernel) rfl ⟨Nat.le_of_ble_eq_true rfl, Nat.le_of_ble_eq_true rfl⟩ hK hP hD hS hA [2, 3, 4, 5, 6, 7] [0, 1] rfl (by decide) rfl (by decide) (by decide) rfl rfl hl.1 rfl (Nat.le_of_ble_eq_true rfl) d_md_remove_50 ⟨Nat.zero_le _, Nat.zero_le _⟩ (fun v u H locs hpost hP hD hS => ?_)
    obtain ⟨P2, N2, fi2, la2⟩ := u
    obtain ⟨e9, hPN2, hPS2, hsF2⟩ := hpost
    subst e9
    generalize va_cpy Z Z (rk K (K x) Sp + 1) (rk K (K x) Sp) (Sp.length - 1 - rk K (K x) Sp) = Z2 at *
    refine W.eq (g2 := F0 m 53 ls []) rfl ?_
    have hP : va_P D cls ([(h, .inr (3, [.ref r])), (r, .inl (cP, 3, .inr (.inr (.inr (.inr ft)))))] ++ (px cI a qs qk qv qb qn (2 ^ (4 + j)) Z2 K V P2 N2 (nI (l1 ++ l2).length) (nI x) (nI mm) fi2 la2)) H := hP
    have hD : va_D A ([(h, .inr (3, [.ref r])), (r, .inl (cP, 3, .inr (.inr (.inr (.inr ft)))))] ++ (px cI a qs qk qv qb qn (2 ^ (4 + j)) Z2 K V P2 N2 (nI (l1 ++ l2).length) (nI x) (nI mm) fi2 la2)) := hD
    refine lv_iload hx hb d_md_remove_53 (lv_at hl 0 rfl) ?_
    refine lv_i2l (v := (V x).toInt64) hx hb d_md_remove_55 rfl ?_
    exact cg_lret (u := (qs, qk, qv, qb, qn, Z2, K, V, P2, N2, nI x, mm, fi2, la2, l1 ++ l2)) hQ hx hb hr hlk hK hP hD hS (⟨by rw [hkL]; rfl, ⟨x :: Fr, _, pa_del hPA, hPN2, hPS2, hsF2, by rw [← hke]; exact hdel⟩⟩) d_md_remove_56
set_option maxRecDepth 100000 in
set_option maxHeartbeats 4000000 in
theorem c_md_remove_x (l : Launch) (D : va_G) (cI cT cP : ClassId) (h r : Nat) (q : Int32) (hq : bad q) (k : Int32) : Cg l y_md_remove b_md_remove 5 (some .long) 2 0 0 D (ty3 cI cT cP) [.ref h, .int q, .int k] ([(h, .inr (3, [.ref r]))]) (fun (v : Option Value) (u : Unit) => v = some (.long 1099511627777)) (fun u => [(h, .inr (3, [.ref r]))]) := by
  refine cg_enter rfl (Nat.le_of_ble_eq_true rfl) ?_
  intro p e s m below meth c args hx hb hr hlk hml hown hin hts A hA hK hP hD hS ls hl Q hQ
  have hl : lv_has ls 5 [(0, .ref h), (1, .int q), (2, .int k)] := hl
  have hP : va_P D cls ([(h, .inr (3, [.ref r]))]) s.heap := hP
  have hD : va_D A ([(h, .inr (3, [.ref r]))]) := hD
  refine lv_iload_n hx hb d_md_remove_0 rfl (lv_at hl 1 rfl) ?_
  refine cg_S (hn := 1) (As := [.int q]) (rest := []) (wr := [(h, .inr (3, [.ref r]))]) hx hb hml hown hts (c_md_isMap_x l D cI cT cP q hq) km_md_20 kt_md_isMap kn_md kc_md_isMap (by decide +kernel) rfl ⟨Nat.le_of_ble_eq_true rfl, Nat.le_of_ble_eq_true rfl⟩ hK hP hD hS hA [] [0] rfl (by decide) rfl (by decide) (by decide) hl.1 rfl (Nat.le_of_ble_eq_true rfl) d_md_remove_1 ⟨Nat.zero_le _, Nat.zero_le _⟩ (fun v u H locs hpost hP hD hS => ?_)
  subst hpost
  refine W.eq (g2 := F0 m 4 ls [.int 0]) rfl ?_
  have hP : va_P D cls ([(h, .inr (3, [.ref r]))]) H := hP
  have hD : va_D A ([(h, .inr (3, [.ref r]))]) := hD
  refine lv_if_ne (tgt := 11) hx hb d_md_remove_4 (by decide) (fun z9 => absurd rfl z9) (fun _ => ?_)
  refine lv_ldc2 hx hb hown (hts _ kk_md_24) d_md_remove_7 ?_
  exact cg_lret (u := ()) hQ hx hb hr hlk hK hP hD hS rfl d_md_remove_10
set_option maxRecDepth 100000 in
set_option maxHeartbeats 4000000 in
/-- take -/
theorem c_md_take (l : Launch) (D : va_G) (cI cT cP : ClassId) (h r : Nat) (ft : Nat → Option Nat) (km : Nat) (hkm : km < 3) (a : Nat) (hft : ft km = some a) (j : Nat) (L : List (Int32 × Int32)) (u0 : PB) (hL : PL j L u0) (k v0 : Int32) : Cg l y_md_take b_md_take 5 (some .boolean) 2 0 0 D (ty3 cI cT cP) [.ref h, .int (nI km), .int k, .int v0] ([(h, .inr (3, [.ref r])), (r, .inl (cP, 3, .inr (.inr (.inr (.inr ft)))))] ++ (pw cI a j u0)) (fun (v : Option Value) (u : PB) => v = some (.int (zI (decide (lk k L = some v0)))) ∧ PL j (tk k v0 L) u) (fun u => [(h, .inr (3, [.ref r])), (r, .inl (cP, 3, .inr (.inr (.inr (.inr ft)))))] ++ (pw cI a j u)) := by
  obtain ⟨qs, qk, qv, qb, qn, Z, K, V, P, N, fr, mm, fi, la, R⟩ := u0
  obtain ⟨Fr, Sp, hPA, hPN, hPS, hsF, eL⟩ := hL
  have hPA : PA (2 ^ (4 + j)) j mm R Fr := hPA
  have hPN : PN P N fi la R := hPN
  have hPS : PS K Z R Sp := hPS
  have hsF : sg N fr Fr (-1) := hsF
  have eL : L = kv K V R := eL
  have hLl : L.length = R.length := by rw [eL]; exact List.length_map ..
  have hpn := pa_n hPA
  have hn : 2 ^ (4 + j) < 2 ^ 31 := by omega
  have hSl : Sp.length = R.length := hPS.1.length_eq
  have hin2 : ∀ x, x ∈ Sp → x < 2 ^ (4 + j) := fun x hx1 => (pa_in hPA (hPS.1.mem_iff.mp hx1)).2
  have hnd := ps_nd hPS
  refine cg_enter rfl (Nat.le_of_ble_eq_true rfl) ?_
  intro p e s m below meth c args hx hb hr hlk hml hown hin hts A hA hK hP hD hS ls hl Q hQ
  have hl : lv_has ls 5 [(0, .ref h), (1, .int (nI km)), (2, .int k), (3, .int v0)] := hl
  have hP : va_P D cls ([(h, .inr (3, [.ref r])), (r, .inl (cP, 3, .inr (.inr (.inr (.inr ft)))))] ++ (px cI a qs qk qv qb qn (2 ^ (4 + j)) Z K V P N (nI R.length) fr (nI mm) fi la)) s.heap := hP
  have hD : va_D A ([(h, .inr (3, [.ref r])), (r, .inl (cP, 3, .inr (.inr (.inr (.inr ft)))))] ++ (px cI a qs qk qv qb qn (2 ^ (4 + j)) Z K V P N (nI R.length) fr (nI mm) fi la)) := hD
  refine lv_iload_n hx hb d_md_take_0 rfl (lv_at hl 1 rfl) ?_
  refine cg_S (hn := 1) (As := [.int (nI km)]) (rest := []) (wr := [(h, .inr (3, [.ref r])), (r, .inl (cP, 3, .inr (.inr (.inr (.inr ft)))))] ++ (px cI a qs qk qv qb qn (2 ^ (4 + j)) Z K V P N (nI R.length) fr (nI mm) fi la)) hx hb hml hown hts (c_md_isMap l D cI cT cP km hkm) km_md_20 kt_md_isMap kn_md kc_md_isMap (by decide +kernel) rfl ⟨Nat.le_of_ble_eq_true rfl, Nat.le_of_ble_eq_true rfl⟩ hK hP hD hS hA [] [0, 1, 2, 3, 4, 5, 6, 7] rfl (by decide) rfl (by decide) (by decide) hl.1 rfl (Nat.le_of_ble_eq_true rfl) d_md_take_1 ⟨Nat.zero_le _, Nat.zero_le _⟩ (fun v u H locs hpost hP hD hS => ?_)
  subst hpost
  refine W.eq (g2 := F0 m 4 ls [.int 1]) rfl ?_
  have hP : va_P D cls ([(h, .inr (3, [.ref r])), (r, .inl (cP, 3, .inr (.inr (.inr (.inr ft)))))] ++ (px cI a qs qk qv qb qn (2 ^ (4 + j)) Z K V P N (nI R.length) fr (nI mm) fi la)) H := hP
  have hD : va_D A ([(h, .inr (3, [.ref r])), (r, .inl (cP, 3, .inr (.inr (.inr (.inr ft)))))] ++ (px cI a qs qk qv qb qn (2 ^ (4 + j)) Z K V P N (nI R.length) fr (nI mm) fi la)) := hD
  refine lv_if_eq (tgt := 20) hx hb d_md_take_4 (by decide) (fun z9 => absurd z9 (by decide)) (fun _ => ?_)
  refine lv_aload_n hx hb d_md_take_7 rfl (lv_at hl 0 rfl) ?_
  refine va_get (D := D) (ci := 3) (v := .ref r) (C := R_md) (T := F_md) (N := 1) hx hb hts i_md hown hK hP 0 rfl rfl 0 (by decide) (hts _ kf_md_12) (fun _ h9 => h9) rfl d_md_take_8 ?_
  refine lv_iload_n hx hb d_md_take_11 rfl (lv_at hl 1 rfl) ?_
  refine wa_ald (k := km) (b := a) hx hb hK hP 1 2 rfl rfl hkm (by decide) hft d_md_take_12 ?_
  refine lv_iload_n hx hb d_md_take_13 rfl (lv_at hl 2 rfl) ?_
  refine cg_V (hn := 1) (As := [.int k]) (rest := []) (wr := [(h, .inr (3, [.ref r])), (r, .inl (cP, 3, .inr (.inr (.inr (.inr ft)))))]) (q0 := 0) (ci := 2) hx hb hml hown hts (c_pr_find l D cI cT cP a qs qk qv qb qn (2 ^ (4 + j)) Z K V P N fr (nI mm) fi la j mm R Fr Sp hPA hPS k) km_md_26 ki_pr_find ks_pr_find kn_pr kc_pr_find (by decide +kernel) rfl ⟨Nat.le_of_ble_eq_true rfl, Nat.le_of_ble_eq_true rfl⟩ hK hP hD hS hA [2, 3, 4, 5, 6, 7] [0, 1] rfl (by decide) rfl (by decide) (by decide) rfl rfl hl.1 rfl (Nat.le_of_ble_eq_true rfl) d_md_take_14 ⟨Nat.zero_le _, Nat.zero_le _⟩ (fun v u H locs hpost hP hD hS => ?_)
  subst hpost
  refine W.eq (g2 := F0 m 17 ls [.int (io (so K k R))]) rfl ?_
  have hP : va_P D cls ([(h, .inr (3, [.ref r])), (r, .inl (cP, 3, .inr (.inr (.inr (.inr ft)))))] ++ (px cI a qs qk qv qb qn (2 ^ (4 + j)) Z K V P N (nI R.length) fr (nI mm) fi la)) H := hP
  have hD : va_D A ([(h, .inr (3, [.ref r])), (r, .inl (cP, 3, .inr (.inr (.inr (.inr ft)))))] ++ (px cI a qs qk qv qb qn (2 ^ (4 + j)) Z K V P N (nI R.length) fr (nI mm) fi la)) := hD
  rcases so_cases K k R with ⟨e0, hno⟩ | ⟨x, e0, hxR, hke⟩
  · rw [e0]
    have hkL : lk k L = none := by rw [eL]; exact kv_out hno
    refine lv_goto (tgt := 21) hx hb d_md_take_17 (by decide) ?_
    refine lv_istore (lv' := [(4, .int (-1)), (0, .ref h), (1, .int (nI km)), (2, .int k), (3, .int v0)]) hx hb d_md_take_21 hl (by decide) rfl (fun ls hl => ?_)
    refine lv_iload hx hb d_md_take_23 (lv_at hl 0 rfl) ?_
    refine lv_if_lt (tgt := 44) hx hb d_md_take_25 (by decide) (fun _ => ?_) (fun z9 => absurd m1_neg z9)
    refine lv_iconst (v := 0) hx hb d_md_take_44 (by decide) ?_
    exact cg_zret (u := (qs, qk, qv, qb, qn, Z, K, V, P, N, fr, mm, fi, la, R)) hQ hx hb hr hlk hK hP hD hS rfl (⟨by rw [hkL]; rfl, by unfold tk; rw [hkL, if_neg (by simp)]; exact ⟨Fr, Sp, hPA, hPN, hPS, hsF, eL⟩⟩) d_md_take_45
  · rw [e0]
    have hxn := pa_in hPA hxR
    have hkL : lk k L = some (V x) := by rw [eL, ← hke]; exact kv_at hxR hnd
    refine lv_goto (tgt := 21) hx hb d_md_take_17 (by decide) ?_
    refine lv_istore (lv' := [(4, .int (nI x)), (0, .ref h), (1, .int (nI km)), (2, .int k), (3, .int v0)]) hx hb d_md_take_21 hl (by decide) rfl (fun ls hl => ?_)
    refine lv_iload hx hb d_md_take_23 (lv_at hl 0 rfl) ?_
    refine lv_if_lt (tgt := 44) hx hb d_md_take_25 (by decide) (fun z9 => absurd z9 (nI_pos (by omega))) (fun _ => ?_)
    refine lv_aload_n hx hb d_md_take_28 rfl (lv_at hl 1 rfl) ?_
    refine va_get (D := D) (ci := 3) (v := .ref r) (C := R_md) (T := F_md) (N := 1) hx hb hts i_md hown hK hP 0 rfl rfl 0 (by decide) (hts _ kf_md_12) (fun _ h9 => h9) rfl d_md_take_29 ?_
    refine lv_iload_n hx hb d_md_take_32 rfl (lv_at hl 2 rfl) ?_
    refine wa_ald (k := km) (b := a) hx hb hK hP 1 2 rfl rfl hkm (by decide) hft d_md_take_33 ?_
    refine va_get (D := D) (ci := 2) (v := .ref qv) (C := R_pr) (T := F_pr) (N := 10) hx hb hts i_pr hown hK hP 2 rfl rfl 2 (by decide) (hts _ kf_md_36) (fun _ h9 => h9) rfl d_md_take_34 ?_
    refine lv_iload hx hb d_md_take_37 (lv_at hl 0 rfl) ?_
    refine wa_ld (k := x) hx hb hK hP 5 0 rfl rfl hxn.2 hn d_md_take_39 ?_
    refine lv_iload_n hx hb d_md_take_40 rfl (lv_at hl 4 rfl) ?_
    refine lv_icmp_eq (tgt := 46) hx hb d_md_take_41 (by decide) (fun c1 => ?_) (fun c1 => ?_)
    · refine lv_aload_n hx hb d_md_take_46 rfl (lv_at hl 1 rfl) ?_
      refine va_get (D := D) (ci := 3) (v := .ref r) (C := R_md) (T := F_md) (N := 1) hx hb hts i_md hown hK hP 0 rfl rfl 0 (by decide) (hts _ kf_md_12) (fun _ h9 => h9) rfl d_md_take_47 ?_
      refine lv_iload_n hx hb d_md_take_50 rfl (lv_at hl 2 rfl) ?_
      refine wa_ald (k := km) (b := a) hx hb hK hP 1 2 rfl rfl hkm (by decide) hft d_md_take_51 ?_
      refine lv_iload hx hb d_md_take_52 (lv_at hl 0 rfl) ?_
      obtain ⟨l1, l2, eR⟩ := List.append_of_mem hxR
      subst eR
      have hdel : del (K x) L = kv K V (l1 ++ l2) := by rw [eL]; exact (kv_split hnd).2.1
      refine cg_V (hn := 1) (As := [.int (nI x)]) (rest := []) (wr := [(h, .inr (3, [.ref r])), (r, .inl (cP, 3, .inr (.inr (.inr (.inr ft)))))]) (q0 := 0) (ci := 2) hx hb hml hown hts (c_pr_delete l D cI cT cP a qs qk qv qb qn (2 ^ (4 + j)) Z K V P N fr (nI mm) fi la j mm x l1 l2 Fr Sp hPA hPN hPS hsF) km_md_47 ki_pr_delete ks_pr_delete kn_pr kc_pr_delete (by decide +kernel) rfl ⟨Nat.le_of_ble_eq_true rfl, Nat.le_of_ble_eq_true rfl⟩ hK hP hD hS hA [2, 3, 4, 5, 6, 7] [0, 1] rfl (by decide) rfl (by decide) (by decide) rfl rfl hl.1 rfl (Nat.le_of_ble_eq_true rfl) d_md_take_54 ⟨Nat.zero_le _, Nat.zero_le _⟩ (fun v u H locs hpost hP hD hS => ?_)
      obtain ⟨P2, N2, fi2, la2⟩ := u
      obtain ⟨e9, hPN2, hPS2, hsF2⟩ := hpost
      subst e9
      generalize va_cpy Z Z (rk K (K x) Sp + 1) (rk K (K x) Sp) (Sp.length - 1 - rk K (K x) Sp) = Z2 at *
      refine W.eq (g2 := F0 m 57 ls []) rfl ?_
      have hP : va_P D cls ([(h, .inr (3, [.ref r])), (r, .inl (cP, 3, .inr (.inr (.inr (.inr ft)))))] ++ (px cI a qs qk qv qb qn (2 ^ (4 + j)) Z2 K V P2 N2 (nI (l1 ++ l2).length) (nI x) (nI mm) fi2 la2)) H := hP
      have hD : va_D A ([(h, .inr (3, [.ref r])), (r, .inl (cP, 3, .inr (.inr (.inr (.inr ft)))))] ++ (px cI a qs qk qv qb qn (2 ^ (4 + j)) Z2 K V P2 N2 (nI (l1 ++ l2).length) (nI x) (nI mm) fi2 la2)) := hD
      refine lv_iconst (v := 1) hx hb d_md_take_57 (by decide) ?_
      exact cg_zret (u := (qs, qk, qv, qb, qn, Z2, K, V, P2, N2, nI x, mm, fi2, la2, l1 ++ l2)) hQ hx hb hr hlk hK hP hD hS rfl (⟨by rw [hkL, decide_eq_true (by rw [c1])]; rfl, by unfold tk; rw [hkL, if_pos (by rw [c1])]; exact ⟨x :: Fr, _, pa_del hPA, hPN2, hPS2, hsF2, by rw [← hke]; exact hdel⟩⟩) d_md_take_58
    · refine lv_iconst (v := 0) hx hb d_md_take_44 (by decide) ?_
      exact cg_zret (u := (qs, qk, qv, qb, qn, Z, K, V, P, N, fr, mm, fi, la, R)) hQ hx hb hr hlk hK hP hD hS rfl (⟨by rw [hkL, decide_eq_false (fun z9 => c1 (Option.some.inj z9))]; rfl, by unfold tk; rw [hkL, if_neg (fun z9 => c1 (Option.some.inj z9))]; exact ⟨Fr, Sp, hPA, hPN, hPS, hsF, eL⟩⟩) d_md_take_45
set_option maxRecDepth 100000 in
set_option maxHeartbeats 4000000 in
theorem c_md_take_x (l : Launch) (D : va_G) (cI cT cP : ClassId) (h r : Nat) (q : Int32) (hq : bad q) (k v0 : Int32) : Cg l y_md_take b_md_take 5 (some .boolean) 2 0 0 D (ty3 cI cT cP) [.ref h, .int q, .int k, .int v0] ([(h, .inr (3, [.ref r]))]) (fun (v : Option Value) (u : Unit) => v = some (.int 0)) (fun u => [(h, .inr (3, [.ref r]))]) := by
  refine cg_enter rfl (Nat.le_of_ble_eq_true rfl) ?_
  intro p e s m below meth c args hx hb hr hlk hml hown hin hts A hA hK hP hD hS ls hl Q hQ
  have hl : lv_has ls 5 [(0, .ref h), (1, .int q), (2, .int k), (3, .int v0)] := hl
  have hP : va_P D cls ([(h, .inr (3, [.ref r]))]) s.heap := hP
  have hD : va_D A ([(h, .inr (3, [.ref r]))]) := hD
  refine lv_iload_n hx hb d_md_take_0 rfl (lv_at hl 1 rfl) ?_
  refine cg_S (hn := 1) (As := [.int q]) (rest := []) (wr := [(h, .inr (3, [.ref r]))]) hx hb hml hown hts (c_md_isMap_x l D cI cT cP q hq) km_md_20 kt_md_isMap kn_md kc_md_isMap (by decide +kernel) rfl ⟨Nat.le_of_ble_eq_true rfl, Nat.le_of_ble_eq_true rfl⟩ hK hP hD hS hA [] [0] rfl (by decide) rfl (by decide) (by decide) hl.1 rfl (Nat.le_of_ble_eq_true rfl) d_md_take_1 ⟨Nat.zero_le _, Nat.zero_le _⟩ (fun v u H locs hpost hP hD hS => ?_)
  subst hpost
  refine W.eq (g2 := F0 m 4 ls [.int 0]) rfl ?_
  have hP : va_P D cls ([(h, .inr (3, [.ref r]))]) H := hP
  have hD : va_D A ([(h, .inr (3, [.ref r]))]) := hD
  refine lv_if_eq (tgt := 20) hx hb d_md_take_4 (by decide) (fun _ => ?_) (fun z9 => absurd rfl z9)
  refine lv_iconst (v := (-1)) hx hb d_md_take_20 (by decide) ?_
  refine lv_istore (lv' := [(4, .int (-1)), (0, .ref h), (1, .int q), (2, .int k), (3, .int v0)]) hx hb d_md_take_21 hl (by decide) rfl (fun ls hl => ?_)
  refine lv_iload hx hb d_md_take_23 (lv_at hl 0 rfl) ?_
  refine lv_if_lt (tgt := 44) hx hb d_md_take_25 (by decide) (fun _ => ?_) (fun z9 => absurd m1_neg z9)
  refine lv_iconst (v := 0) hx hb d_md_take_44 (by decide) ?_
  exact cg_zret (u := ()) hQ hx hb hr hlk hK hP hD hS rfl rfl d_md_take_45
set_option maxRecDepth 100000 in
set_option maxHeartbeats 4000000 in
/-- size -/
theorem c_md_size (l : Launch) (D : va_G) (cI cT cP : ClassId) (h r : Nat) (ft : Nat → Option Nat) (km : Nat) (hkm : km < 3) (a : Nat) (hft : ft km = some a) (j : Nat) (L : List (Int32 × Int32)) (u0 : PB) (hL : PL j L u0) : Cg l y_md_size b_md_size 2 (some .int) 1 0 0 D (ty3 cI cT cP) [.ref h, .int (nI km)] ([(h, .inr (3, [.ref r])), (r, .inl (cP, 3, .inr (.inr (.inr (.inr ft)))))] ++ (pw cI a j u0)) (fun (v : Option Value) (u : Unit) => v = some (.int (nI L.length))) (fun u => [(h, .inr (3, [.ref r])), (r, .inl (cP, 3, .inr (.inr (.inr (.inr ft)))))] ++ (pw cI a j u0)) := by
  obtain ⟨qs, qk, qv, qb, qn, Z, K, V, P, N, fr, mm, fi, la, R⟩ := u0
  obtain ⟨Fr, Sp, hPA, hPN, hPS, hsF, eL⟩ := hL
  have hPA : PA (2 ^ (4 + j)) j mm R Fr := hPA
  have hPN : PN P N fi la R := hPN
  have hPS : PS K Z R Sp := hPS
  have hsF : sg N fr Fr (-1) := hsF
  have eL : L = kv K V R := eL
  have hLl : L.length = R.length := by rw [eL]; exact List.length_map ..
  have hpn := pa_n hPA
  have hn : 2 ^ (4 + j) < 2 ^ 31 := by omega
  have hSl : Sp.length = R.length := hPS.1.length_eq
  have hin2 : ∀ x, x ∈ Sp → x < 2 ^ (4 + j) := fun x hx1 => (pa_in hPA (hPS.1.mem_iff.mp hx1)).2
  have hnd := ps_nd hPS
  refine cg_enter rfl (Nat.le_of_ble_eq_true rfl) ?_
  intro p e s m below meth c args hx hb hr hlk hml hown hin hts A hA hK hP hD hS ls hl Q hQ
  have hl : lv_has ls 2 [(0, .ref h), (1, .int (nI km))] := hl
  have hP : va_P D cls ([(h, .inr (3, [.ref r])), (r, .inl (cP, 3, .inr (.inr (.inr (.inr ft)))))] ++ (px cI a qs qk qv qb qn (2 ^ (4 + j)) Z K V P N (nI R.length) fr (nI mm) fi la)) s.heap := hP
  have hD : va_D A ([(h, .inr (3, [.ref r])), (r, .inl (cP, 3, .inr (.inr (.inr (.inr ft)))))] ++ (px cI a qs qk qv qb qn (2 ^ (4 + j)) Z K V P N (nI R.length) fr (nI mm) fi la)) := hD
  refine lv_iload_n hx hb d_md_size_0 rfl (lv_at hl 1 rfl) ?_
  refine cg_S (hn := 1) (As := [.int (nI km)]) (rest := []) (wr := [(h, .inr (3, [.ref r])), (r, .inl (cP, 3, .inr (.inr (.inr (.inr ft)))))] ++ (px cI a qs qk qv qb qn (2 ^ (4 + j)) Z K V P N (nI R.length) fr (nI mm) fi la)) hx hb hml hown hts (c_md_isMap l D cI cT cP km hkm) km_md_20 kt_md_isMap kn_md kc_md_isMap (by decide +kernel) rfl ⟨Nat.le_of_ble_eq_true rfl, Nat.le_of_ble_eq_true rfl⟩ hK hP hD hS hA [] [0, 1, 2, 3, 4, 5, 6, 7] rfl (by decide) rfl (by decide) (by decide) hl.1 rfl (Nat.le_of_ble_eq_true rfl) d_md_size_1 ⟨Nat.zero_le _, Nat.zero_le _⟩ (fun v u H locs hpost hP hD hS => ?_)
  subst hpost
  refine W.eq (g2 := F0 m 4 ls [.int 1]) rfl ?_
  have hP : va_P D cls ([(h, .inr (3, [.ref r])), (r, .inl (cP, 3, .inr (.inr (.inr (.inr ft)))))] ++ (px cI a qs qk qv qb qn (2 ^ (4 + j)) Z K V P N (nI R.length) fr (nI mm) fi la)) H := hP
  have hD : va_D A ([(h, .inr (3, [.ref r])), (r, .inl (cP, 3, .inr (.inr (.inr (.inr ft)))))] ++ (px cI a qs qk qv qb qn (2 ^ (4 + j)) Z K V P N (nI R.length) fr (nI mm) fi la)) := hD
  refine lv_if_eq (tgt := 19) hx hb d_md_size_4 (by decide) (fun z9 => absurd z9 (by decide)) (fun _ => ?_)
  refine lv_aload_n hx hb d_md_size_7 rfl (lv_at hl 0 rfl) ?_
  refine va_get (D := D) (ci := 3) (v := .ref r) (C := R_md) (T := F_md) (N := 1) hx hb hts i_md hown hK hP 0 rfl rfl 0 (by decide) (hts _ kf_md_12) (fun _ h9 => h9) rfl d_md_size_8 ?_
  refine lv_iload_n hx hb d_md_size_11 rfl (lv_at hl 1 rfl) ?_
  refine wa_ald (k := km) (b := a) hx hb hK hP 1 2 rfl rfl hkm (by decide) hft d_md_size_12 ?_
  refine va_get (D := D) (ci := 2) (v := .int (nI R.length)) (C := R_pr) (T := F_pr) (N := 10) hx hb hts i_pr hown hK hP 2 rfl rfl 5 (by decide) (hts _ kf_md_50) (fun _ h9 => h9) rfl d_md_size_13 ?_
  refine lv_goto (tgt := 20) hx hb d_md_size_16 (by decide) ?_
  exact cg_iret (u := ()) hQ hx hb hr hlk hK hP hD hS (by rw [hLl]) d_md_size_20
set_option maxRecDepth 100000 in
set_option maxHeartbeats 4000000 in
theorem c_md_size_x (l : Launch) (D : va_G) (cI cT cP : ClassId) (h r : Nat) (q : Int32) (hq : bad q)  : Cg l y_md_size b_md_size 2 (some .int) 1 0 0 D (ty3 cI cT cP) [.ref h, .int q] ([(h, .inr (3, [.ref r]))]) (fun (v : Option Value) (u : Unit) => v = some (.int (-1))) (fun u => [(h, .inr (3, [.ref r]))]) := by
  refine cg_enter rfl (Nat.le_of_ble_eq_true rfl) ?_
  intro p e s m below meth c args hx hb hr hlk hml hown hin hts A hA hK hP hD hS ls hl Q hQ
  have hl : lv_has ls 2 [(0, .ref h), (1, .int q)] := hl
  have hP : va_P D cls ([(h, .inr (3, [.ref r]))]) s.heap := hP
  have hD : va_D A ([(h, .inr (3, [.ref r]))]) := hD
  refine lv_iload_n hx hb d_md_size_0 rfl (lv_at hl 1 rfl) ?_
  refine cg_S (hn := 1) (As := [.int q]) (rest := []) (wr := [(h, .inr (3, [.ref r]))]) hx hb hml hown hts (c_md_isMap_x l D cI cT cP q hq) km_md_20 kt_md_isMap kn_md kc_md_isMap (by decide +kernel) rfl ⟨Nat.le_of_ble_eq_true rfl, Nat.le_of_ble_eq_true rfl⟩ hK hP hD hS hA [] [0] rfl (by decide) rfl (by decide) (by decide) hl.1 rfl (Nat.le_of_ble_eq_true rfl) d_md_size_1 ⟨Nat.zero_le _, Nat.zero_le _⟩ (fun v u H locs hpost hP hD hS => ?_)
  subst hpost
  refine W.eq (g2 := F0 m 4 ls [.int 0]) rfl ?_
  have hP : va_P D cls ([(h, .inr (3, [.ref r]))]) H := hP
  have hD : va_D A ([(h, .inr (3, [.ref r]))]) := hD
  refine lv_if_eq (tgt := 19) hx hb d_md_size_4 (by decide) (fun _ => ?_) (fun z9 => absurd rfl z9)
  refine lv_iconst (v := (-1)) hx hb d_md_size_19 (by decide) ?_
  exact cg_iret (u := ()) hQ hx hb hr hlk hK hP hD hS rfl d_md_size_20
set_option maxRecDepth 100000 in
set_option maxHeartbeats 4000000 in
/-- clear -/
theorem c_md_clear (l : Launch) (D : va_G) (cI cT cP : ClassId) (h r : Nat) (ft : Nat → Option Nat) (km : Nat) (hkm : km < 3) (a : Nat) (hft : ft km = some a) (j : Nat) (L : List (Int32 × Int32)) (u0 : PB) (hL : PL j L u0) : Cg l y_md_clear b_md_clear 3 (some .int) 1 0 0 D (ty3 cI cT cP) [.ref h, .int (nI km)] ([(h, .inr (3, [.ref r])), (r, .inl (cP, 3, .inr (.inr (.inr (.inr ft)))))] ++ (pw cI a j u0)) (fun (v : Option Value) (u : PB) => v = some (.int (nI L.length)) ∧ PL j [] u) (fun u => [(h, .inr (3, [.ref r])), (r, .inl (cP, 3, .inr (.inr (.inr (.inr ft)))))] ++ (pw cI a j u)) := by
  obtain ⟨qs, qk, qv, qb, qn, Z, K, V, P, N, fr, mm, fi, la, R⟩ := u0
  obtain ⟨Fr, Sp, hPA, hPN, hPS, hsF, eL⟩ := hL
  have hPA : PA (2 ^ (4 + j)) j mm R Fr := hPA
  have hPN : PN P N fi la R := hPN
  have hPS : PS K Z R Sp := hPS
  have hsF : sg N fr Fr (-1) := hsF
  have eL : L = kv K V R := eL
  have hLl : L.length = R.length := by rw [eL]; exact List.length_map ..
  have hpn := pa_n hPA
  have hn : 2 ^ (4 + j) < 2 ^ 31 := by omega
  have hSl : Sp.length = R.length := hPS.1.length_eq
  have hin2 : ∀ x, x ∈ Sp → x < 2 ^ (4 + j) := fun x hx1 => (pa_in hPA (hPS.1.mem_iff.mp hx1)).2
  have hnd := ps_nd hPS
  refine cg_enter rfl (Nat.le_of_ble_eq_true rfl) ?_
  intro p e s m below meth c args hx hb hr hlk hml hown hin hts A hA hK hP hD hS ls hl Q hQ
  have hl : lv_has ls 3 [(0, .ref h), (1, .int (nI km))] := hl
  have hP : va_P D cls ([(h, .inr (3, [.ref r])), (r, .inl (cP, 3, .inr (.inr (.inr (.inr ft)))))] ++ (px cI a qs qk qv qb qn (2 ^ (4 + j)) Z K V P N (nI R.length) fr (nI mm) fi la)) s.heap := hP
  have hD : va_D A ([(h, .inr (3, [.ref r])), (r, .inl (cP, 3, .inr (.inr (.inr (.inr ft)))))] ++ (px cI a qs qk qv qb qn (2 ^ (4 + j)) Z K V P N (nI R.length) fr (nI mm) fi la)) := hD
  refine lv_iload_n hx hb d_md_clear_0 rfl (lv_at hl 1 rfl) ?_
  refine cg_S (hn := 1) (As := [.int (nI km)]) (rest := []) (wr := [(h, .inr (3, [.ref r])), (r, .inl (cP, 3, .inr (.inr (.inr (.inr ft)))))] ++ (px cI a qs qk qv qb qn (2 ^ (4 + j)) Z K V P N (nI R.length) fr (nI mm) fi la)) hx hb hml hown hts (c_md_isMap l D cI cT cP km hkm) km_md_20 kt_md_isMap kn_md kc_md_isMap (by decide +kernel) rfl ⟨Nat.le_of_ble_eq_true rfl, Nat.le_of_ble_eq_true rfl⟩ hK hP hD hS hA [] [0, 1, 2, 3, 4, 5, 6, 7] rfl (by decide) rfl (by decide) (by decide) hl.1 rfl (Nat.le_of_ble_eq_true rfl) d_md_clear_1 ⟨Nat.zero_le _, Nat.zero_le _⟩ (fun v u H locs hpost hP hD hS => ?_)
  subst hpost
  refine W.eq (g2 := F0 m 4 ls [.int 1]) rfl ?_
  have hP : va_P D cls ([(h, .inr (3, [.ref r])), (r, .inl (cP, 3, .inr (.inr (.inr (.inr ft)))))] ++ (px cI a qs qk qv qb qn (2 ^ (4 + j)) Z K V P N (nI R.length) fr (nI mm) fi la)) H := hP
  have hD : va_D A ([(h, .inr (3, [.ref r])), (r, .inl (cP, 3, .inr (.inr (.inr (.inr ft)))))] ++ (px cI a qs qk qv qb qn (2 ^ (4 + j)) Z K V P N (nI R.length) fr (nI mm) fi la)) := hD
  refine lv_if_ne (tgt := 9) hx hb d_md_clear_4 (by decide) (fun _ => ?_) (fun z9 => absurd z9 (by decide))
  refine lv_aload_n hx hb d_md_clear_9 rfl (lv_at hl 0 rfl) ?_
  refine va_get (D := D) (ci := 3) (v := .ref r) (C := R_md) (T := F_md) (N := 1) hx hb hts i_md hown hK hP 0 rfl rfl 0 (by decide) (hts _ kf_md_12) (fun _ h9 => h9) rfl d_md_clear_10 ?_
  refine lv_iload_n hx hb d_md_clear_13 rfl (lv_at hl 1 rfl) ?_
  refine wa_ald (k := km) (b := a) hx hb hK hP 1 2 rfl rfl hkm (by decide) hft d_md_clear_14 ?_
  refine va_get (D := D) (ci := 2) (v := .int (nI R.length)) (C := R_pr) (T := F_pr) (N := 10) hx hb hts i_pr hown hK hP 2 rfl rfl 5 (by decide) (hts _ kf_md_50) (fun _ h9 => h9) rfl d_md_clear_15 ?_
  refine lv_istore_n (lv' := [(2, .int (nI R.length)), (0, .ref h), (1, .int (nI km))]) hx hb d_md_clear_18 rfl hl (by decide) rfl (fun ls hl => ?_)
  refine lv_aload_n hx hb d_md_clear_19 rfl (lv_at hl 1 rfl) ?_
  refine va_get (D := D) (ci := 3) (v := .ref r) (C := R_md) (T := F_md) (N := 1) hx hb hts i_md hown hK hP 0 rfl rfl 0 (by decide) (hts _ kf_md_12) (fun _ h9 => h9) rfl d_md_clear_20 ?_
  refine lv_iload_n hx hb d_md_clear_23 rfl (lv_at hl 2 rfl) ?_
  refine wa_ald (k := km) (b := a) hx hb hK hP 1 2 rfl rfl hkm (by decide) hft d_md_clear_24 ?_
  refine cg_V (hn := 0) (As := []) (rest := []) (wr := [(h, .inr (3, [.ref r])), (r, .inl (cP, 3, .inr (.inr (.inr (.inr ft)))))]) (q0 := 0) (ci := 2) hx hb hml hown hts (c_pr_clear l D cI cT cP a qs qk qv qb qn (2 ^ (4 + j)) Z K V P N (nI R.length) fr (nI mm) fi la) km_md_57 ki_pr_clear ks_pr_clear kn_pr kc_pr_clear (by decide +kernel) rfl ⟨Nat.le_of_ble_eq_true rfl, Nat.le_of_ble_eq_true rfl⟩ hK hP hD hS hA [2, 3, 4, 5, 6, 7] [0, 1] rfl (by decide) rfl (by decide) (by decide) rfl rfl hl.1 rfl (Nat.le_of_ble_eq_true rfl) d_md_clear_25 ⟨Nat.zero_le _, Nat.zero_le _⟩ (fun v u H locs hpost hP hD hS => ?_)
  subst hpost
  refine W.eq (g2 := F0 m 28 ls []) rfl ?_
  have hP : va_P D cls ([(h, .inr (3, [.ref r])), (r, .inl (cP, 3, .inr (.inr (.inr (.inr ft)))))] ++ (px cI a qs qk qv qb qn (2 ^ (4 + j)) Z K V P N 0 (-1) 0 (-1) (-1))) H := hP
  have hD : va_D A ([(h, .inr (3, [.ref r])), (r, .inl (cP, 3, .inr (.inr (.inr (.inr ft)))))] ++ (px cI a qs qk qv qb qn (2 ^ (4 + j)) Z K V P N 0 (-1) 0 (-1) (-1))) := hD
  refine lv_iload_n hx hb d_md_clear_28 rfl (lv_at hl 0 rfl) ?_
  exact cg_iret (u := (qs, qk, qv, qb, qn, Z, K, V, P, N, -1, 0, -1, -1, [])) hQ hx hb hr hlk hK hP hD hS (⟨by rw [hLl], [], [], ⟨hPA.1, Nat.zero_le _, by simp, fun x => by simp, rfl⟩, ⟨rfl, rfl⟩, ⟨List.Perm.refl _, List.Pairwise.nil, fun i hi => absurd hi (Nat.not_lt_zero _)⟩, rfl, rfl⟩) d_md_clear_29
set_option maxRecDepth 100000 in
set_option maxHeartbeats 4000000 in
theorem c_md_clear_x (l : Launch) (D : va_G) (cI cT cP : ClassId) (h r : Nat) (q : Int32) (hq : bad q)  : Cg l y_md_clear b_md_clear 3 (some .int) 1 0 0 D (ty3 cI cT cP) [.ref h, .int q] ([(h, .inr (3, [.ref r]))]) (fun (v : Option Value) (u : Unit) => v = some (.int (-1))) (fun u => [(h, .inr (3, [.ref r]))]) := by
  refine cg_enter rfl (Nat.le_of_ble_eq_true rfl) ?_
  intro p e s m below meth c args hx hb hr hlk hml hown hin hts A hA hK hP hD hS ls hl Q hQ
  have hl : lv_has ls 3 [(0, .ref h), (1, .int q)] := hl
  have hP : va_P D cls ([(h, .inr (3, [.ref r]))]) s.heap := hP
  have hD : va_D A ([(h, .inr (3, [.ref r]))]) := hD
  refine lv_iload_n hx hb d_md_clear_0 rfl (lv_at hl 1 rfl) ?_
  refine cg_S (hn := 1) (As := [.int q]) (rest := []) (wr := [(h, .inr (3, [.ref r]))]) hx hb hml hown hts (c_md_isMap_x l D cI cT cP q hq) km_md_20 kt_md_isMap kn_md kc_md_isMap (by decide +kernel) rfl ⟨Nat.le_of_ble_eq_true rfl, Nat.le_of_ble_eq_true rfl⟩ hK hP hD hS hA [] [0] rfl (by decide) rfl (by decide) (by decide) hl.1 rfl (Nat.le_of_ble_eq_true rfl) d_md_clear_1 ⟨Nat.zero_le _, Nat.zero_le _⟩ (fun v u H locs hpost hP hD hS => ?_)
  subst hpost
  refine W.eq (g2 := F0 m 4 ls [.int 0]) rfl ?_
  have hP : va_P D cls ([(h, .inr (3, [.ref r]))]) H := hP
  have hD : va_D A ([(h, .inr (3, [.ref r]))]) := hD
  refine lv_if_ne (tgt := 9) hx hb d_md_clear_4 (by decide) (fun z9 => absurd rfl z9) (fun _ => ?_)
  refine lv_iconst (v := (-1)) hx hb d_md_clear_7 (by decide) ?_
  exact cg_iret (u := ()) hQ hx hb hr hlk hK hP hD hS rfl d_md_clear_8
