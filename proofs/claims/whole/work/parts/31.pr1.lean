-- Pairs (1): printed by wip/whole/gen/pr1.py
abbrev px (cI : ClassId) (a qs qk qv qb qn n : Nat) (Z K V P N : Nat → Int32) (my fr md fi la : Int32) : va_W := [(a, .inr (2, [.ref qs, .ref qk, .ref qv, .ref qb, .ref qn, .int my, .int fr, .int md, .int fi, .int la])), (qs, .inl (cI, n, .inl Z)), (qk, .inl (cI, n, .inl K)), (qv, .inl (cI, n, .inl V)), (qb, .inl (cI, n, .inl P)), (qn, .inl (cI, n, .inl N))]
set_option maxRecDepth 100000 in
set_option maxHeartbeats 4000000 in
/-- rankOf(k) -/
theorem c_pr_rankOf (l : Launch) (D : va_G) (cI cT cP : ClassId) (a qs qk qv qb qn n : Nat) (Z K V P N : Nat → Int32) (fr md fi la : Int32) (Sp : List Nat) (hs : Sp.Pairwise (fun x y => K x < K y)) (hZ : ∀ i, i < Sp.length → Z i = nI (Sp.getD i 0)) (hin2 : ∀ x, x ∈ Sp → x < n) (hle : Sp.length ≤ n) (hn4 : n ≤ 4096) (k : Int32) : Cg l y_pr_rankOf b_pr_rankOf 5 (some .int) 0 0 0 D (ty3 cI cT cP) [.ref a, .int k] (px cI a qs qk qv qb qn n Z K V P N (nI Sp.length) fr md fi la) (fun (v : Option Value) (u : Unit) => v = some (.int (nI (rk K k Sp)))) (fun u => px cI a qs qk qv qb qn n Z K V P N (nI Sp.length) fr md fi la) := by
  have hn : n < 2 ^ 31 := by omega
  have hrk : rk K k Sp ≤ Sp.length := rk_le
  refine cg_enter rfl (Nat.le_of_ble_eq_true rfl) ?_
  intro p e s m below meth c args hx hb hr hlk hml hown hin hts A hA hK hP hD hS ls hl Q hQ
  have hl : lv_has ls 5 [(0, .ref a), (1, .int k)] := hl
  have hP : va_P D cls (px cI a qs qk qv qb qn n Z K V P N (nI Sp.length) fr md fi la) s.heap := hP
  have hD : va_D A (px cI a qs qk qv qb qn n Z K V P N (nI Sp.length) fr md fi la) := hD
  refine lv_iconst (v := 0) hx hb d_pr_rankOf_0 (by decide) ?_
  refine lv_istore_n (lv' := [(2, .int 0), (0, .ref a), (1, .int k)]) hx hb d_pr_rankOf_1 rfl hl (by decide) rfl (fun ls hl => ?_)
  refine lv_aload_n hx hb d_pr_rankOf_2 rfl (lv_at hl 1 rfl) ?_
  refine va_get (D := D) (ci := 2) (v := .int (nI Sp.length)) (C := R_pr) (T := F_pr) (N := 10) hx hb hts i_pr hown hK hP 0 rfl rfl 5 (by decide) (hts _ kf_pr_35) (fun _ h9 => h9) rfl d_pr_rankOf_3 ?_
  refine lv_istore_n (lv' := [(3, .int (nI Sp.length)), (2, .int 0), (0, .ref a), (1, .int k)]) hx hb d_pr_rankOf_6 rfl hl (by decide) rfl (fun ls hl => ?_)
  have loop : ∀ (fu lo hi : Nat), hi ≤ lo + fu → lo ≤ rk K k Sp → rk K k Sp ≤ hi → hi ≤ Sp.length → ∀ ls : Array Slot, lv_has ls 5 [(0, .ref a), (1, .int k), (2, .int (nI lo)), (3, .int (nI hi))] → W p l e (rmL 0 0 0) s m args below meth c s.heap [] 0 0 Q (F0 m 7 ls []) := by
    intro fu
    induction fu with
    | zero =>
      intro lo hi h1 h2 h3 h4 ls hl
      have e1 : lo = rk K k Sp := by omega
      refine lv_iload_n hx hb d_pr_rankOf_7 rfl (lv_at hl 2 rfl) ?_
      refine lv_iload_n hx hb d_pr_rankOf_8 rfl (lv_at hl 3 rfl) ?_
      refine lv_icmp_ge (tgt := 49) hx hb d_pr_rankOf_9 (by decide) (fun _ => ?_) (fun z9 => absurd (nI_le (by omega) (by omega)) z9)
      refine lv_iload_n hx hb d_pr_rankOf_49 rfl (lv_at hl 2 rfl) ?_
      exact cg_iret (u := ()) hQ hx hb hr hlk hK hP hD hS (by rw [e1]) d_pr_rankOf_50
    | succ fu ih =>
      intro lo hi h1 h2 h3 h4 ls hl
      by_cases h5 : lo < hi
      · obtain ⟨md, hmd⟩ : ∃ md, md = (lo + hi) / 2 := ⟨_, rfl⟩
        have hm1 : lo ≤ md ∧ md < hi := by omega
        have hx1 : Sp.getD md 0 ∈ Sp := by
          rw [List.getD_eq_getElem?_getD, List.getElem?_eq_getElem (by omega)]
          exact List.getElem_mem _
        have hri := rk_iff (k := k) hs (i := md) (by omega)
        refine lv_iload_n hx hb d_pr_rankOf_7 rfl (lv_at hl 2 rfl) ?_
        refine lv_iload_n hx hb d_pr_rankOf_8 rfl (lv_at hl 3 rfl) ?_
        refine lv_icmp_ge (tgt := 49) hx hb d_pr_rankOf_9 (by decide) (fun z9 => absurd z9 (nI_ge h5 (by omega))) (fun _ => ?_)
        refine lv_iload_n hx hb d_pr_rankOf_12 rfl (lv_at hl 2 rfl) ?_
        refine lv_iload_n hx hb d_pr_rankOf_13 rfl (lv_at hl 3 rfl) ?_
        refine lv_iadd hx hb d_pr_rankOf_14 ?_
        refine tp_i (y := nI (lo + hi)) (nI_add lo hi) ?_
        refine lv_iconst (v := 2) hx hb d_pr_rankOf_15 (by decide) ?_
        refine lv_idiv hx hb d_pr_rankOf_16 (by decide) ?_
        refine tp_i (y := nI md) (by rw [hmd]; exact pk_div (d := 2) (by omega) (by decide) (by decide)) ?_
        refine lv_istore (lv' := [(4, .int (nI md)), (0, .ref a), (1, .int k), (2, .int (nI lo)), (3, .int (nI hi))]) hx hb d_pr_rankOf_17 hl (by decide) rfl (fun ls hl => ?_)
        refine lv_aload_n hx hb d_pr_rankOf_19 rfl (lv_at hl 1 rfl) ?_
        refine va_get (D := D) (ci := 2) (v := .ref qk) (C := R_pr) (T := F_pr) (N := 10) hx hb hts i_pr hown hK hP 0 rfl rfl 1 (by decide) (hts _ kf_pr_13) (fun _ h9 => h9) rfl d_pr_rankOf_20 ?_
        refine lv_aload_n hx hb d_pr_rankOf_23 rfl (lv_at hl 1 rfl) ?_
        refine va_get (D := D) (ci := 2) (v := .ref qs) (C := R_pr) (T := F_pr) (N := 10) hx hb hts i_pr hown hK hP 0 rfl rfl 0 (by decide) (hts _ kf_pr_7) (fun _ h9 => h9) rfl d_pr_rankOf_24 ?_
        refine lv_iload hx hb d_pr_rankOf_27 (lv_at hl 0 rfl) ?_
        refine wa_ld (k := md) hx hb hK hP 1 0 rfl rfl (by omega) hn d_pr_rankOf_29 ?_
        refine tp_i (y := nI (Sp.getD md 0)) (hZ md (by omega)) ?_
        refine wa_ld (k := Sp.getD md 0) hx hb hK hP 2 0 rfl rfl (hin2 _ hx1) hn d_pr_rankOf_30 ?_
        refine lv_iload_n hx hb d_pr_rankOf_31 rfl (lv_at hl 2 rfl) ?_
        refine lv_icmp_ge (tgt := 43) hx hb d_pr_rankOf_32 (by decide) (fun c1 => ?_) (fun c1 => ?_)
        · refine lv_iload hx hb d_pr_rankOf_43 (lv_at hl 0 rfl) ?_
          refine lv_istore_n (lv' := [(3, .int (nI md)), (4, .int (nI md)), (0, .ref a), (1, .int k), (2, .int (nI lo))]) hx hb d_pr_rankOf_45 rfl hl (by decide) rfl (fun ls hl => ?_)
          refine lv_goto (tgt := 7) hx hb d_pr_rankOf_46 (by decide) ?_
          exact ih lo md (by omega) h2 (by have h6 : ¬ md < rk K k Sp := fun z9 => absurd (hri.mpr z9) (Int32.not_lt.mpr c1); omega) (by omega) ls (lv_sub hl [2, 3, 4, 0] rfl)
        · refine lv_iload hx hb d_pr_rankOf_35 (lv_at hl 0 rfl) ?_
          refine lv_iconst (v := 1) hx hb d_pr_rankOf_37 (by decide) ?_
          refine lv_iadd hx hb d_pr_rankOf_38 ?_
          refine tp_i (y := nI (md + 1)) (nI_1 md) ?_
          refine lv_istore_n (lv' := [(2, .int (nI (md + 1))), (4, .int (nI md)), (0, .ref a), (1, .int k), (3, .int (nI hi))]) hx hb d_pr_rankOf_39 rfl hl (by decide) rfl (fun ls hl => ?_)
          refine lv_goto (tgt := 46) hx hb d_pr_rankOf_40 (by decide) ?_
          refine lv_goto (tgt := 7) hx hb d_pr_rankOf_46 (by decide) ?_
          exact ih (md + 1) hi (by omega) (by have h6 := hri.mp (Int32.not_le.mp c1); omega) h3 h4 ls (lv_sub hl [2, 3, 0, 4] rfl)
      · have e1 : lo = rk K k Sp := by omega
        refine lv_iload_n hx hb d_pr_rankOf_7 rfl (lv_at hl 2 rfl) ?_
        refine lv_iload_n hx hb d_pr_rankOf_8 rfl (lv_at hl 3 rfl) ?_
        refine lv_icmp_ge (tgt := 49) hx hb d_pr_rankOf_9 (by decide) (fun _ => ?_) (fun z9 => absurd (nI_le (by omega) (by omega)) z9)
        refine lv_iload_n hx hb d_pr_rankOf_49 rfl (lv_at hl 2 rfl) ?_
        exact cg_iret (u := ()) hQ hx hb hr hlk hK hP hD hS (by rw [e1]) d_pr_rankOf_50
  exact loop Sp.length 0 Sp.length (by omega) (by omega) hrk (by omega) ls (lv_sub hl [2, 3, 1, 0] rfl)
set_option maxRecDepth 100000 in
set_option maxHeartbeats 4000000 in
/-- find(k) -/
theorem c_pr_find (l : Launch) (D : va_G) (cI cT cP : ClassId) (a qs qk qv qb qn n : Nat) (Z K V P N : Nat → Int32) (fr md fi la : Int32) (j mm : Nat) (R Fr Sp : List Nat) (hPA : PA n j mm R Fr) (hPS : PS K Z R Sp) (k : Int32) : Cg l y_pr_find b_pr_find 3 (some .int) 1 0 0 D (ty3 cI cT cP) [.ref a, .int k] (px cI a qs qk qv qb qn n Z K V P N (nI R.length) fr md fi la) (fun (v : Option Value) (u : Unit) => v = some (.int (io (so K k R)))) (fun u => px cI a qs qk qv qb qn n Z K V P N (nI R.length) fr md fi la) := by
  have hpn := pa_n hPA
  have hn : n < 2 ^ 31 := by omega
  have hSl : Sp.length = R.length := hPS.1.length_eq
  have hin2 : ∀ x, x ∈ Sp → x < n := fun x hx1 => (pa_in hPA (hPS.1.mem_iff.mp hx1)).2
  have hnd := ps_nd hPS
  refine cg_enter rfl (Nat.le_of_ble_eq_true rfl) ?_
  intro p e s m below meth c args hx hb hr hlk hml hown hin hts A hA hK hP hD hS ls hl Q hQ
  have hl : lv_has ls 3 [(0, .ref a), (1, .int k)] := hl
  have hP : va_P D cls (px cI a qs qk qv qb qn n Z K V P N (nI R.length) fr md fi la) s.heap := hP
  have hD : va_D A (px cI a qs qk qv qb qn n Z K V P N (nI R.length) fr md fi la) := hD
  rw [← hSl] at hP hD
  refine lv_aload_n hx hb d_pr_find_0 rfl (lv_at hl 0 rfl) ?_
  refine lv_iload_n hx hb d_pr_find_1 rfl (lv_at hl 1 rfl) ?_
  refine cg_V (hn := 1) (As := [.int k]) (rest := []) (wr := []) (q0 := 0) (ci := 2) hx hb hml hown hts (c_pr_rankOf l D cI cT cP a qs qk qv qb qn n Z K V P N fr md fi la Sp hPS.2.1 hPS.2.2 hin2 (by omega) (by omega) k) km_pr_38 ki_pr_rankOf ks_pr_rankOf kn_pr kc_pr_rankOf (by decide +kernel) rfl ⟨Nat.le_of_ble_eq_true rfl, Nat.le_of_ble_eq_true rfl⟩ hK hP hD hS hA [0, 1, 2, 3, 4, 5] [] rfl (by decide) rfl (by decide) (by decide) rfl rfl hl.1 rfl (Nat.le_of_ble_eq_true rfl) d_pr_find_2 ⟨Nat.zero_le _, Nat.zero_le _⟩ (fun v u H locs hpost hP hD hS => ?_)
  subst hpost
  refine W.eq (g2 := F0 m 5 ls [.int (nI (rk K k Sp))]) rfl ?_
  have hP : va_P D cls (px cI a qs qk qv qb qn n Z K V P N (nI Sp.length) fr md fi la) H := hP
  have hD : va_D A (px cI a qs qk qv qb qn n Z K V P N (nI Sp.length) fr md fi la) := hD
  rw [hSl] at hP hD
  have hpm : Sp.map K = Sp.map K := rfl
  rcases rk_find (K := K) (k := k) hPS.2.1 with ⟨r1, r2⟩ | ⟨r1, r2⟩
  · have hx1 : Sp.getD (rk K k Sp) 0 ∈ Sp := by
      rw [List.getD_eq_getElem?_getD, List.getElem?_eq_getElem r1]
      exact List.getElem_mem _
    have hso := so_eq hnd (hPS.1.mem_iff.mp hx1) r2
    refine lv_istore_n (lv' := [(2, .int (nI (rk K k Sp))), (0, .ref a), (1, .int k)]) hx hb d_pr_find_5 rfl hl (by decide) rfl (fun ls hl => ?_)
    refine lv_iload_n hx hb d_pr_find_6 rfl (lv_at hl 0 rfl) ?_
    refine lv_aload_n hx hb d_pr_find_7 rfl (lv_at hl 1 rfl) ?_
    refine va_get (D := D) (ci := 2) (v := .int (nI R.length)) (C := R_pr) (T := F_pr) (N := 10) hx hb hts i_pr hown hK hP 0 rfl rfl 5 (by decide) (hts _ kf_pr_35) (fun _ h9 => h9) rfl d_pr_find_8 ?_
    refine lv_icmp_ge (tgt := 38) hx hb d_pr_find_11 (by decide) (fun z9 => absurd z9 (nI_ge (by omega) (by omega))) (fun _ => ?_)
    refine lv_aload_n hx hb d_pr_find_14 rfl (lv_at hl 1 rfl) ?_
    refine va_get (D := D) (ci := 2) (v := .ref qk) (C := R_pr) (T := F_pr) (N := 10) hx hb hts i_pr hown hK hP 0 rfl rfl 1 (by decide) (hts _ kf_pr_13) (fun _ h9 => h9) rfl d_pr_find_15 ?_
    refine lv_aload_n hx hb d_pr_find_18 rfl (lv_at hl 1 rfl) ?_
    refine va_get (D := D) (ci := 2) (v := .ref qs) (C := R_pr) (T := F_pr) (N := 10) hx hb hts i_pr hown hK hP 0 rfl rfl 0 (by decide) (hts _ kf_pr_7) (fun _ h9 => h9) rfl d_pr_find_19 ?_
    refine lv_iload_n hx hb d_pr_find_22 rfl (lv_at hl 0 rfl) ?_
    refine wa_ld (k := rk K k Sp) hx hb hK hP 1 0 rfl rfl (by omega) hn d_pr_find_23 ?_
    refine tp_i (y := nI (Sp.getD (rk K k Sp) 0)) (hPS.2.2 _ r1) ?_
    refine wa_ld (k := Sp.getD (rk K k Sp) 0) hx hb hK hP 2 0 rfl rfl (hin2 _ hx1) hn d_pr_find_24 ?_
    refine lv_iload_n hx hb d_pr_find_25 rfl (lv_at hl 2 rfl) ?_
    refine lv_icmp_ne (tgt := 38) hx hb d_pr_find_26 (by decide) (fun z9 => absurd r2 z9) (fun _ => ?_)
    refine lv_aload_n hx hb d_pr_find_29 rfl (lv_at hl 1 rfl) ?_
    refine va_get (D := D) (ci := 2) (v := .ref qs) (C := R_pr) (T := F_pr) (N := 10) hx hb hts i_pr hown hK hP 0 rfl rfl 0 (by decide) (hts _ kf_pr_7) (fun _ h9 => h9) rfl d_pr_find_30 ?_
    refine lv_iload_n hx hb d_pr_find_33 rfl (lv_at hl 0 rfl) ?_
    refine wa_ld (k := rk K k Sp) hx hb hK hP 1 0 rfl rfl (by omega) hn d_pr_find_34 ?_
    refine tp_i (y := nI (Sp.getD (rk K k Sp) 0)) (hPS.2.2 _ r1) ?_
    refine lv_goto (tgt := 39) hx hb d_pr_find_35 (by decide) ?_
    exact cg_iret (u := ()) hQ hx hb hr hlk hK hP hD hS (by rw [hso]; rfl) d_pr_find_39
  · have hno : k ∉ R.map K := fun z9 => r2 ((hPS.1.map K).mem_iff.mpr z9)
    have hso := so_none hno
    refine lv_istore_n (lv' := [(2, .int (nI (rk K k Sp))), (0, .ref a), (1, .int k)]) hx hb d_pr_find_5 rfl hl (by decide) rfl (fun ls hl => ?_)
    refine lv_iload_n hx hb d_pr_find_6 rfl (lv_at hl 0 rfl) ?_
    refine lv_aload_n hx hb d_pr_find_7 rfl (lv_at hl 1 rfl) ?_
    refine va_get (D := D) (ci := 2) (v := .int (nI R.length)) (C := R_pr) (T := F_pr) (N := 10) hx hb hts i_pr hown hK hP 0 rfl rfl 5 (by decide) (hts _ kf_pr_35) (fun _ h9 => h9) rfl d_pr_find_8 ?_
    by_cases h5 : rk K k Sp < R.length
    · have hx1 : Sp.getD (rk K k Sp) 0 ∈ Sp := by
        rw [List.getD_eq_getElem?_getD, List.getElem?_eq_getElem (by omega)]
        exact List.getElem_mem _
      refine lv_icmp_ge (tgt := 38) hx hb d_pr_find_11 (by decide) (fun z9 => absurd z9 (nI_ge h5 (by omega))) (fun _ => ?_)
      refine lv_aload_n hx hb d_pr_find_14 rfl (lv_at hl 1 rfl) ?_
      refine va_get (D := D) (ci := 2) (v := .ref qk) (C := R_pr) (T := F_pr) (N := 10) hx hb hts i_pr hown hK hP 0 rfl rfl 1 (by decide) (hts _ kf_pr_13) (fun _ h9 => h9) rfl d_pr_find_15 ?_
      refine lv_aload_n hx hb d_pr_find_18 rfl (lv_at hl 1 rfl) ?_
      refine va_get (D := D) (ci := 2) (v := .ref qs) (C := R_pr) (T := F_pr) (N := 10) hx hb hts i_pr hown hK hP 0 rfl rfl 0 (by decide) (hts _ kf_pr_7) (fun _ h9 => h9) rfl d_pr_find_19 ?_
      refine lv_iload_n hx hb d_pr_find_22 rfl (lv_at hl 0 rfl) ?_
      refine wa_ld (k := rk K k Sp) hx hb hK hP 1 0 rfl rfl (by omega) hn d_pr_find_23 ?_
      refine tp_i (y := nI (Sp.getD (rk K k Sp) 0)) (hPS.2.2 _ (by omega)) ?_
      refine wa_ld (k := Sp.getD (rk K k Sp) 0) hx hb hK hP 2 0 rfl rfl (hin2 _ hx1) hn d_pr_find_24 ?_
      refine lv_iload_n hx hb d_pr_find_25 rfl (lv_at hl 2 rfl) ?_
      refine lv_icmp_ne (tgt := 38) hx hb d_pr_find_26 (by decide) (fun _ => ?_) (fun z9 => absurd z9 (fun z9 => r1 ⟨by omega, z9⟩))
      refine lv_iconst (v := (-1)) hx hb d_pr_find_38 (by decide) ?_
      exact cg_iret (u := ()) hQ hx hb hr hlk hK hP hD hS (by rw [hso]; rfl) d_pr_find_39
    · refine lv_icmp_ge (tgt := 38) hx hb d_pr_find_11 (by decide) (fun _ => ?_) (fun z9 => absurd (nI_le (by omega) (by have := rk_le (K := K) (k := k) (Sp := Sp); omega)) z9)
      refine lv_iconst (v := (-1)) hx hb d_pr_find_38 (by decide) ?_
      exact cg_iret (u := ()) hQ hx hb hr hlk hK hP hD hS (by rw [hso]; rfl) d_pr_find_39
set_option maxRecDepth 100000 in
set_option maxHeartbeats 4000000 in
/-- link(p0) -/
theorem c_pr_link (l : Launch) (D : va_G) (cI cT cP : ClassId) (a qs qk qv qb qn n : Nat) (Z K V P N : Nat → Int32) (my fr md fi : Int32) (hn : n < 2 ^ 31) (R : List Nat) (hRn : ∀ x, x ∈ R → x < n) (p0 : Nat) (hp0 : p0 < n) : Cg l y_pr_link b_pr_link 2 (none) 0 0 0 D (ty3 cI cT cP) [.ref a, .int (nI p0)] (px cI a qs qk qv qb qn n Z K V P N my fr md fi (lsI R)) (fun (v : Option Value) (u : Unit) => v = none) (fun u => px cI a qs qk qv qb qn n Z K V (upd P p0 (lsI R)) ((cL N fi (-1) p0 R).1) my fr md ((cL N fi (-1) p0 R).2) (nI p0)) := by
  refine cg_enter rfl (Nat.le_of_ble_eq_true rfl) ?_
  intro p e s m below meth c args hx hb hr hlk hml hown hin hts A hA hK hP hD hS ls hl Q hQ
  have hl : lv_has ls 2 [(0, .ref a), (1, .int (nI p0))] := hl
  have hP : va_P D cls (px cI a qs qk qv qb qn n Z K V P N my fr md fi (lsI R)) s.heap := hP
  have hD : va_D A (px cI a qs qk qv qb qn n Z K V P N my fr md fi (lsI R)) := hD
  cases R with
  | nil =>
    have hP : va_P D cls (px cI a qs qk qv qb qn n Z K V P N my fr md fi (-1)) s.heap := hP
    have hD : va_D A (px cI a qs qk qv qb qn n Z K V P N my fr md fi (-1)) := hD
    refine lv_aload_n hx hb d_pr_link_0 rfl (lv_at hl 0 rfl) ?_
    refine va_get (D := D) (ci := 2) (v := .ref qb) (C := R_pr) (T := F_pr) (N := 10) hx hb hts i_pr hown hK hP 0 rfl rfl 3 (by decide) (hts _ kf_pr_19) (fun _ h9 => h9) rfl d_pr_link_1 ?_
    refine lv_iload_n hx hb d_pr_link_4 rfl (lv_at hl 1 rfl) ?_
    refine lv_aload_n hx hb d_pr_link_5 rfl (lv_at hl 0 rfl) ?_
    refine va_get (D := D) (ci := 2) (v := .int (-1)) (C := R_pr) (T := F_pr) (N := 10) hx hb hts i_pr hown hK hP 0 rfl rfl 9 (by decide) (hts _ kf_pr_32) (fun _ h9 => h9) rfl d_pr_link_6 ?_
    refine wa_st (k := p0) (x := (-1)) hx hb hK hP hD hS 4 0 rfl rfl hp0 hn d_pr_link_9 (fun H locs hP hD hS => ?_)
    have hP : va_P D cls (px cI a qs qk qv qb qn n Z K V (upd P p0 (-1)) N my fr md fi (-1)) H := hP
    have hD : va_D A (px cI a qs qk qv qb qn n Z K V (upd P p0 (-1)) N my fr md fi (-1)) := hD
    refine lv_aload_n hx hb d_pr_link_10 rfl (lv_at hl 0 rfl) ?_
    refine va_get (D := D) (ci := 2) (v := .ref qn) (C := R_pr) (T := F_pr) (N := 10) hx hb hts i_pr hown hK hP 0 rfl rfl 4 (by decide) (hts _ kf_pr_22) (fun _ h9 => h9) rfl d_pr_link_11 ?_
    refine lv_iload_n hx hb d_pr_link_14 rfl (lv_at hl 1 rfl) ?_
    refine lv_iconst (v := (-1)) hx hb d_pr_link_15 (by decide) ?_
    refine wa_st (k := p0) (x := (-1)) hx hb hK hP hD hS 5 0 rfl rfl hp0 hn d_pr_link_16 (fun H locs hP hD hS => ?_)
    have hP : va_P D cls (px cI a qs qk qv qb qn n Z K V (upd P p0 (-1)) (upd N p0 (-1)) my fr md fi (-1)) H := hP
    have hD : va_D A (px cI a qs qk qv qb qn n Z K V (upd P p0 (-1)) (upd N p0 (-1)) my fr md fi (-1)) := hD
    refine lv_aload_n hx hb d_pr_link_17 rfl (lv_at hl 0 rfl) ?_
    refine va_get (D := D) (ci := 2) (v := .int (-1)) (C := R_pr) (T := F_pr) (N := 10) hx hb hts i_pr hown hK hP 0 rfl rfl 9 (by decide) (hts _ kf_pr_32) (fun _ h9 => h9) rfl d_pr_link_18 ?_
    refine lv_if_lt (tgt := 37) hx hb d_pr_link_21 (by decide) (fun _ => ?_) (fun z9 => absurd m1_neg z9)
    refine lv_aload_n hx hb d_pr_link_37 rfl (lv_at hl 0 rfl) ?_
    refine lv_iload_n hx hb d_pr_link_38 rfl (lv_at hl 1 rfl) ?_
    refine va_put (D := D) (ci := 2) (v := .int (nI p0)) (ty := .int) (C := R_pr) (T := F_pr) (N := 10) hx hb hts i_pr t_pr t_pr_ok n_pr hown hK hP hD hS 0 rfl rfl 8 (by decide) (hts _ kf_pr_29) (fun _ h9 => h9) rfl (by decide +kernel) rfl rfl (Nat.le_of_ble_eq_true rfl) d_pr_link_39 (fun H locs hP hD hS => ?_)
    have hP : va_P D cls (px cI a qs qk qv qb qn n Z K V (upd P p0 (-1)) (upd N p0 (-1)) my fr md (nI p0) (-1)) H := hP
    have hD : va_D A (px cI a qs qk qv qb qn n Z K V (upd P p0 (-1)) (upd N p0 (-1)) my fr md (nI p0) (-1)) := hD
    refine lv_aload_n hx hb d_pr_link_42 rfl (lv_at hl 0 rfl) ?_
    refine lv_iload_n hx hb d_pr_link_43 rfl (lv_at hl 1 rfl) ?_
    refine va_put (D := D) (ci := 2) (v := .int (nI p0)) (ty := .int) (C := R_pr) (T := F_pr) (N := 10) hx hb hts i_pr t_pr t_pr_ok n_pr hown hK hP hD hS 0 rfl rfl 9 (by decide) (hts _ kf_pr_32) (fun _ h9 => h9) rfl (by decide +kernel) rfl rfl (Nat.le_of_ble_eq_true rfl) d_pr_link_44 (fun H locs hP hD hS => ?_)
    have hP : va_P D cls (px cI a qs qk qv qb qn n Z K V (upd P p0 (-1)) (upd N p0 (-1)) my fr md (nI p0) (nI p0)) H := hP
    have hD : va_D A (px cI a qs qk qv qb qn n Z K V (upd P p0 (-1)) (upd N p0 (-1)) my fr md (nI p0) (nI p0)) := hD
    exact cg_vret (u := ()) hQ hx hb hr hlk hK hP hD hS rfl d_pr_link_47
  | cons y t =>
    have hP : va_P D cls (px cI a qs qk qv qb qn n Z K V P N my fr md fi (nI (ls_ y t))) s.heap := hP
    have hD : va_D A (px cI a qs qk qv qb qn n Z K V P N my fr md fi (nI (ls_ y t))) := hD
    have hln : ls_ y t < n := hRn _ (ls_mem y t)
    refine lv_aload_n hx hb d_pr_link_0 rfl (lv_at hl 0 rfl) ?_
    refine va_get (D := D) (ci := 2) (v := .ref qb) (C := R_pr) (T := F_pr) (N := 10) hx hb hts i_pr hown hK hP 0 rfl rfl 3 (by decide) (hts _ kf_pr_19) (fun _ h9 => h9) rfl d_pr_link_1 ?_
    refine lv_iload_n hx hb d_pr_link_4 rfl (lv_at hl 1 rfl) ?_
    refine lv_aload_n hx hb d_pr_link_5 rfl (lv_at hl 0 rfl) ?_
    refine va_get (D := D) (ci := 2) (v := .int (nI (ls_ y t))) (C := R_pr) (T := F_pr) (N := 10) hx hb hts i_pr hown hK hP 0 rfl rfl 9 (by decide) (hts _ kf_pr_32) (fun _ h9 => h9) rfl d_pr_link_6 ?_
    refine wa_st (k := p0) (x := (nI (ls_ y t))) hx hb hK hP hD hS 4 0 rfl rfl hp0 hn d_pr_link_9 (fun H locs hP hD hS => ?_)
    have hP : va_P D cls (px cI a qs qk qv qb qn n Z K V (upd P p0 (nI (ls_ y t))) N my fr md fi (nI (ls_ y t))) H := hP
    have hD : va_D A (px cI a qs qk qv qb qn n Z K V (upd P p0 (nI (ls_ y t))) N my fr md fi (nI (ls_ y t))) := hD
    refine lv_aload_n hx hb d_pr_link_10 rfl (lv_at hl 0 rfl) ?_
    refine va_get (D := D) (ci := 2) (v := .ref qn) (C := R_pr) (T := F_pr) (N := 10) hx hb hts i_pr hown hK hP 0 rfl rfl 4 (by decide) (hts _ kf_pr_22) (fun _ h9 => h9) rfl d_pr_link_11 ?_
    refine lv_iload_n hx hb d_pr_link_14 rfl (lv_at hl 1 rfl) ?_
    refine lv_iconst (v := (-1)) hx hb d_pr_link_15 (by decide) ?_
    refine wa_st (k := p0) (x := (-1)) hx hb hK hP hD hS 5 0 rfl rfl hp0 hn d_pr_link_16 (fun H locs hP hD hS => ?_)
    have hP : va_P D cls (px cI a qs qk qv qb qn n Z K V (upd P p0 (nI (ls_ y t))) (upd N p0 (-1)) my fr md fi (nI (ls_ y t))) H := hP
    have hD : va_D A (px cI a qs qk qv qb qn n Z K V (upd P p0 (nI (ls_ y t))) (upd N p0 (-1)) my fr md fi (nI (ls_ y t))) := hD
    refine lv_aload_n hx hb d_pr_link_17 rfl (lv_at hl 0 rfl) ?_
    refine va_get (D := D) (ci := 2) (v := .int (nI (ls_ y t))) (C := R_pr) (T := F_pr) (N := 10) hx hb hts i_pr hown hK hP 0 rfl rfl 9 (by decide) (hts _ kf_pr_32) (fun _ h9 => h9) rfl d_pr_link_18 ?_
    refine lv_if_lt (tgt := 37) hx hb d_pr_link_21 (by decide) (fun z9 => absurd z9 (nI_pos (by omega))) (fun _ => ?_)
    refine lv_aload_n hx hb d_pr_link_24 rfl (lv_at hl 0 rfl) ?_
    refine va_get (D := D) (ci := 2) (v := .ref qn) (C := R_pr) (T := F_pr) (N := 10) hx hb hts i_pr hown hK hP 0 rfl rfl 4 (by decide) (hts _ kf_pr_22) (fun _ h9 => h9) rfl d_pr_link_25 ?_
    refine lv_aload_n hx hb d_pr_link_28 rfl (lv_at hl 0 rfl) ?_
    refine va_get (D := D) (ci := 2) (v := .int (nI (ls_ y t))) (C := R_pr) (T := F_pr) (N := 10) hx hb hts i_pr hown hK hP 0 rfl rfl 9 (by decide) (hts _ kf_pr_32) (fun _ h9 => h9) rfl d_pr_link_29 ?_
    refine lv_iload_n hx hb d_pr_link_32 rfl (lv_at hl 1 rfl) ?_
    refine wa_st (k := ls_ y t) (x := (nI p0)) hx hb hK hP hD hS 5 0 rfl rfl hln hn d_pr_link_33 (fun H locs hP hD hS => ?_)
    have hP : va_P D cls (px cI a qs qk qv qb qn n Z K V (upd P p0 (nI (ls_ y t))) (upd (upd N p0 (-1)) (ls_ y t) (nI p0)) my fr md fi (nI (ls_ y t))) H := hP
    have hD : va_D A (px cI a qs qk qv qb qn n Z K V (upd P p0 (nI (ls_ y t))) (upd (upd N p0 (-1)) (ls_ y t) (nI p0)) my fr md fi (nI (ls_ y t))) := hD
    refine lv_goto (tgt := 42) hx hb d_pr_link_34 (by decide) ?_
    refine lv_aload_n hx hb d_pr_link_42 rfl (lv_at hl 0 rfl) ?_
    refine lv_iload_n hx hb d_pr_link_43 rfl (lv_at hl 1 rfl) ?_
    refine va_put (D := D) (ci := 2) (v := .int (nI p0)) (ty := .int) (C := R_pr) (T := F_pr) (N := 10) hx hb hts i_pr t_pr t_pr_ok n_pr hown hK hP hD hS 0 rfl rfl 9 (by decide) (hts _ kf_pr_32) (fun _ h9 => h9) rfl (by decide +kernel) rfl rfl (Nat.le_of_ble_eq_true rfl) d_pr_link_44 (fun H locs hP hD hS => ?_)
    have hP : va_P D cls (px cI a qs qk qv qb qn n Z K V (upd P p0 (nI (ls_ y t))) (upd (upd N p0 (-1)) (ls_ y t) (nI p0)) my fr md fi (nI p0)) H := hP
    have hD : va_D A (px cI a qs qk qv qb qn n Z K V (upd P p0 (nI (ls_ y t))) (upd (upd N p0 (-1)) (ls_ y t) (nI p0)) my fr md fi (nI p0)) := hD
    exact cg_vret (u := ()) hQ hx hb hr hlk hK hP hD hS rfl d_pr_link_47
set_option maxRecDepth 100000 in
set_option maxHeartbeats 4000000 in
/-- unlink(p0) -/
theorem c_pr_unlink (l : Launch) (D : va_G) (cI cT cP : ClassId) (a qs qk qv qb qn n : Nat) (Z K V P N : Nat → Int32) (my fr md fi la : Int32) (hn : n < 2 ^ 31) (l1 l2 : List Nat) (p0 : Nat) (hp0 : p0 < n) (e1 : P p0 = lsI l1) (e2 : N p0 = hdI l2) (h1n : ∀ x, x ∈ l1 → x < n ∧ x ≠ p0) (h2n : ∀ x, x ∈ l2 → x < n) : Cg l y_pr_unlink b_pr_unlink 2 (none) 0 0 0 D (ty3 cI cT cP) [.ref a, .int (nI p0)] (px cI a qs qk qv qb qn n Z K V P N my fr md fi la) (fun (v : Option Value) (u : Unit) => v = none) (fun u => px cI a qs qk qv qb qn n Z K V ((cB P la (P p0) l2).1) ((cN N fi (N p0) l1).1) my fr md ((cN N fi (N p0) l1).2) ((cB P la (P p0) l2).2)) := by
  refine cg_enter rfl (Nat.le_of_ble_eq_true rfl) ?_
  intro p e s m below meth c args hx hb hr hlk hml hown hin hts A hA hK hP hD hS ls hl Q hQ
  have hl : lv_has ls 2 [(0, .ref a), (1, .int (nI p0))] := hl
  have hP : va_P D cls (px cI a qs qk qv qb qn n Z K V P N my fr md fi la) s.heap := hP
  have hD : va_D A (px cI a qs qk qv qb qn n Z K V P N my fr md fi la) := hD
  cases l1 with
  | nil =>
    have e1 : P p0 = -1 := e1
    refine lv_aload_n hx hb d_pr_unlink_0 rfl (lv_at hl 0 rfl) ?_
    refine va_get (D := D) (ci := 2) (v := .ref qb) (C := R_pr) (T := F_pr) (N := 10) hx hb hts i_pr hown hK hP 0 rfl rfl 3 (by decide) (hts _ kf_pr_19) (fun _ h9 => h9) rfl d_pr_unlink_1 ?_
    refine lv_iload_n hx hb d_pr_unlink_4 rfl (lv_at hl 1 rfl) ?_
    refine wa_ld (k := p0) hx hb hK hP 4 0 rfl rfl hp0 hn d_pr_unlink_5 ?_
    refine tp_i (y := -1) e1 ?_
    refine lv_if_lt (tgt := 29) hx hb d_pr_unlink_6 (by decide) (fun _ => ?_) (fun z9 => absurd m1_neg z9)
    refine lv_aload_n hx hb d_pr_unlink_29 rfl (lv_at hl 0 rfl) ?_
    refine lv_aload_n hx hb d_pr_unlink_30 rfl (lv_at hl 0 rfl) ?_
    refine va_get (D := D) (ci := 2) (v := .ref qn) (C := R_pr) (T := F_pr) (N := 10) hx hb hts i_pr hown hK hP 0 rfl rfl 4 (by decide) (hts _ kf_pr_22) (fun _ h9 => h9) rfl d_pr_unlink_31 ?_
    refine lv_iload_n hx hb d_pr_unlink_34 rfl (lv_at hl 1 rfl) ?_
    refine wa_ld (k := p0) hx hb hK hP 5 0 rfl rfl hp0 hn d_pr_unlink_35 ?_
    refine va_put (D := D) (ci := 2) (v := .int (N p0)) (ty := .int) (C := R_pr) (T := F_pr) (N := 10) hx hb hts i_pr t_pr t_pr_ok n_pr hown hK hP hD hS 0 rfl rfl 8 (by decide) (hts _ kf_pr_29) (fun _ h9 => h9) rfl (by decide +kernel) rfl rfl (Nat.le_of_ble_eq_true rfl) d_pr_unlink_36 (fun H locs hP hD hS => ?_)
    have hP : va_P D cls (px cI a qs qk qv qb qn n Z K V P N my fr md (N p0) la) H := hP
    have hD : va_D A (px cI a qs qk qv qb qn n Z K V P N my fr md (N p0) la) := hD
    cases l2 with
    | nil =>
      have e2 : N p0 = -1 := e2
      refine lv_aload_n hx hb d_pr_unlink_39 rfl (lv_at hl 0 rfl) ?_
      refine va_get (D := D) (ci := 2) (v := .ref qn) (C := R_pr) (T := F_pr) (N := 10) hx hb hts i_pr hown hK hP 0 rfl rfl 4 (by decide) (hts _ kf_pr_22) (fun _ h9 => h9) rfl d_pr_unlink_40 ?_
      refine lv_iload_n hx hb d_pr_unlink_43 rfl (lv_at hl 1 rfl) ?_
      refine wa_ld (k := p0) hx hb hK hP 5 0 rfl rfl hp0 hn d_pr_unlink_44 ?_
      refine tp_i (y := -1) e2 ?_
      refine lv_if_lt (tgt := 68) hx hb d_pr_unlink_45 (by decide) (fun _ => ?_) (fun z9 => absurd m1_neg z9)
      refine lv_aload_n hx hb d_pr_unlink_68 rfl (lv_at hl 0 rfl) ?_
      refine lv_aload_n hx hb d_pr_unlink_69 rfl (lv_at hl 0 rfl) ?_
      refine va_get (D := D) (ci := 2) (v := .ref qb) (C := R_pr) (T := F_pr) (N := 10) hx hb hts i_pr hown hK hP 0 rfl rfl 3 (by decide) (hts _ kf_pr_19) (fun _ h9 => h9) rfl d_pr_unlink_70 ?_
      refine lv_iload_n hx hb d_pr_unlink_73 rfl (lv_at hl 1 rfl) ?_
      refine wa_ld (k := p0) hx hb hK hP 4 0 rfl rfl hp0 hn d_pr_unlink_74 ?_
      refine va_put (D := D) (ci := 2) (v := .int (P p0)) (ty := .int) (C := R_pr) (T := F_pr) (N := 10) hx hb hts i_pr t_pr t_pr_ok n_pr hown hK hP hD hS 0 rfl rfl 9 (by decide) (hts _ kf_pr_32) (fun _ h9 => h9) rfl (by decide +kernel) rfl rfl (Nat.le_of_ble_eq_true rfl) d_pr_unlink_75 (fun H locs hP hD hS => ?_)
      have hP : va_P D cls (px cI a qs qk qv qb qn n Z K V P N my fr md (N p0) (P p0)) H := hP
      have hD : va_D A (px cI a qs qk qv qb qn n Z K V P N my fr md (N p0) (P p0)) := hD
      exact cg_vret (u := ()) hQ hx hb hr hlk hK hP hD hS rfl d_pr_unlink_78
    | cons y2 t2 =>
      have e2 : N p0 = nI y2 := e2
      refine lv_aload_n hx hb d_pr_unlink_39 rfl (lv_at hl 0 rfl) ?_
      refine va_get (D := D) (ci := 2) (v := .ref qn) (C := R_pr) (T := F_pr) (N := 10) hx hb hts i_pr hown hK hP 0 rfl rfl 4 (by decide) (hts _ kf_pr_22) (fun _ h9 => h9) rfl d_pr_unlink_40 ?_
      refine lv_iload_n hx hb d_pr_unlink_43 rfl (lv_at hl 1 rfl) ?_
      refine wa_ld (k := p0) hx hb hK hP 5 0 rfl rfl hp0 hn d_pr_unlink_44 ?_
      refine tp_i (y := nI y2) e2 ?_
      refine lv_if_lt (tgt := 68) hx hb d_pr_unlink_45 (by decide) (fun z9 => absurd z9 (nI_pos (by have := h2n y2 (List.mem_cons_self ..); omega))) (fun _ => ?_)
      refine lv_aload_n hx hb d_pr_unlink_48 rfl (lv_at hl 0 rfl) ?_
      refine va_get (D := D) (ci := 2) (v := .ref qb) (C := R_pr) (T := F_pr) (N := 10) hx hb hts i_pr hown hK hP 0 rfl rfl 3 (by decide) (hts _ kf_pr_19) (fun _ h9 => h9) rfl d_pr_unlink_49 ?_
      refine lv_aload_n hx hb d_pr_unlink_52 rfl (lv_at hl 0 rfl) ?_
      refine va_get (D := D) (ci := 2) (v := .ref qn) (C := R_pr) (T := F_pr) (N := 10) hx hb hts i_pr hown hK hP 0 rfl rfl 4 (by decide) (hts _ kf_pr_22) (fun _ h9 => h9) rfl d_pr_unlink_53 ?_
      refine lv_iload_n hx hb d_pr_unlink_56 rfl (lv_at hl 1 rfl) ?_
      refine wa_ld (k := p0) hx hb hK hP 5 0 rfl rfl hp0 hn d_pr_unlink_57 ?_
      refine tp_i (y := nI y2) e2 ?_
      refine lv_aload_n hx hb d_pr_unlink_58 rfl (lv_at hl 0 rfl) ?_
      refine va_get (D := D) (ci := 2) (v := .ref qb) (C := R_pr) (T := F_pr) (N := 10) hx hb hts i_pr hown hK hP 0 rfl rfl 3 (by decide) (hts _ kf_pr_19) (fun _ h9 => h9) rfl d_pr_unlink_59 ?_
      refine lv_iload_n hx hb d_pr_unlink_62 rfl (lv_at hl 1 rfl) ?_
      refine wa_ld (k := p0) hx hb hK hP 4 0 rfl rfl hp0 hn d_pr_unlink_63 ?_
      refine wa_st (k := y2) (x := (P p0)) hx hb hK hP hD hS 4 0 rfl rfl (h2n y2 (List.mem_cons_self ..)) hn d_pr_unlink_64 (fun H locs hP hD hS => ?_)
      have hP : va_P D cls (px cI a qs qk qv qb qn n Z K V (upd P y2 (P p0)) N my fr md (N p0) la) H := hP
      have hD : va_D A (px cI a qs qk qv qb qn n Z K V (upd P y2 (P p0)) N my fr md (N p0) la) := hD
      refine lv_goto (tgt := 78) hx hb d_pr_unlink_65 (by decide) ?_
      exact cg_vret (u := ()) hQ hx hb hr hlk hK hP hD hS rfl d_pr_unlink_78
  | cons y1 t1 =>
    have e1 : P p0 = nI (ls_ y1 t1) := e1
    obtain ⟨hb1, hb2⟩ := h1n _ (ls_mem y1 t1)
    refine lv_aload_n hx hb d_pr_unlink_0 rfl (lv_at hl 0 rfl) ?_
    refine va_get (D := D) (ci := 2) (v := .ref qb) (C := R_pr) (T := F_pr) (N := 10) hx hb hts i_pr hown hK hP 0 rfl rfl 3 (by decide) (hts _ kf_pr_19) (fun _ h9 => h9) rfl d_pr_unlink_1 ?_
    refine lv_iload_n hx hb d_pr_unlink_4 rfl (lv_at hl 1 rfl) ?_
    refine wa_ld (k := p0) hx hb hK hP 4 0 rfl rfl hp0 hn d_pr_unlink_5 ?_
    refine tp_i (y := nI (ls_ y1 t1)) e1 ?_
    refine lv_if_lt (tgt := 29) hx hb d_pr_unlink_6 (by decide) (fun z9 => absurd z9 (nI_pos (by omega))) (fun _ => ?_)
    refine lv_aload_n hx hb d_pr_unlink_9 rfl (lv_at hl 0 rfl) ?_
    refine va_get (D := D) (ci := 2) (v := .ref qn) (C := R_pr) (T := F_pr) (N := 10) hx hb hts i_pr hown hK hP 0 rfl rfl 4 (by decide) (hts _ kf_pr_22) (fun _ h9 => h9) rfl d_pr_unlink_10 ?_
    refine lv_aload_n hx hb d_pr_unlink_13 rfl (lv_at hl 0 rfl) ?_
    refine va_get (D := D) (ci := 2) (v := .ref qb) (C := R_pr) (T := F_pr) (N := 10) hx hb hts i_pr hown hK hP 0 rfl rfl 3 (by decide) (hts _ kf_pr_19) (fun _ h9 => h9) rfl d_pr_unlink_14 ?_
    refine lv_iload_n hx hb d_pr_unlink_17 rfl (lv_at hl 1 rfl) ?_
    refine wa_ld (k := p0) hx hb hK hP 4 0 rfl rfl hp0 hn d_pr_unlink_18 ?_
    refine tp_i (y := nI (ls_ y1 t1)) e1 ?_
    refine lv_aload_n hx hb d_pr_unlink_19 rfl (lv_at hl 0 rfl) ?_
    refine va_get (D := D) (ci := 2) (v := .ref qn) (C := R_pr) (T := F_pr) (N := 10) hx hb hts i_pr hown hK hP 0 rfl rfl 4 (by decide) (hts _ kf_pr_22) (fun _ h9 => h9) rfl d_pr_unlink_20 ?_
    refine lv_iload_n hx hb d_pr_unlink_23 rfl (lv_at hl 1 rfl) ?_
    refine wa_ld (k := p0) hx hb hK hP 5 0 rfl rfl hp0 hn d_pr_unlink_24 ?_
    refine wa_st (k := ls_ y1 t1) (x := (N p0)) hx hb hK hP hD hS 5 0 rfl rfl hb1 hn d_pr_unlink_25 (fun H locs hP hD hS => ?_)
    have hP : va_P D cls (px cI a qs qk qv qb qn n Z K V P (upd N (ls_ y1 t1) (N p0)) my fr md fi la) H := hP
    have hD : va_D A (px cI a qs qk qv qb qn n Z K V P (upd N (ls_ y1 t1) (N p0)) my fr md fi la) := hD
    refine lv_goto (tgt := 39) hx hb d_pr_unlink_26 (by decide) ?_
    cases l2 with
    | nil =>
      have e2 : N p0 = -1 := e2
      refine lv_aload_n hx hb d_pr_unlink_39 rfl (lv_at hl 0 rfl) ?_
      refine va_get (D := D) (ci := 2) (v := .ref qn) (C := R_pr) (T := F_pr) (N := 10) hx hb hts i_pr hown hK hP 0 rfl rfl 4 (by decide) (hts _ kf_pr_22) (fun _ h9 => h9) rfl d_pr_unlink_40 ?_
      refine lv_iload_n hx hb d_pr_unlink_43 rfl (lv_at hl 1 rfl) ?_
      refine wa_ld (k := p0) hx hb hK hP 5 0 rfl rfl hp0 hn d_pr_unlink_44 ?_
      refine tp_i (y := -1) ((pk_un (fun z9 => hb2 z9.symm)).trans e2) ?_
      refine lv_if_lt (tgt := 68) hx hb d_pr_unlink_45 (by decide) (fun _ => ?_) (fun z9 => absurd m1_neg z9)
      refine lv_aload_n hx hb d_pr_unlink_68 rfl (lv_at hl 0 rfl) ?_
      refine lv_aload_n hx hb d_pr_unlink_69 rfl (lv_at hl 0 rfl) ?_
      refine va_get (D := D) (ci := 2) (v := .ref qb) (C := R_pr) (T := F_pr) (N := 10) hx hb hts i_pr hown hK hP 0 rfl rfl 3 (by decide) (hts _ kf_pr_19) (fun _ h9 => h9) rfl d_pr_unlink_70 ?_
      refine lv_iload_n hx hb d_pr_unlink_73 rfl (lv_at hl 1 rfl) ?_
      refine wa_ld (k := p0) hx hb hK hP 4 0 rfl rfl hp0 hn d_pr_unlink_74 ?_
      refine va_put (D := D) (ci := 2) (v := .int (P p0)) (ty := .int) (C := R_pr) (T := F_pr) (N := 10) hx hb hts i_pr t_pr t_pr_ok n_pr hown hK hP hD hS 0 rfl rfl 9 (by decide) (hts _ kf_pr_32) (fun _ h9 => h9) rfl (by decide +kernel) rfl rfl (Nat.le_of_ble_eq_true rfl) d_pr_unlink_75 (fun H locs hP hD hS => ?_)
      have hP : va_P D cls (px cI a qs qk qv qb qn n Z K V P (upd N (ls_ y1 t1) (N p0)) my fr md fi (P p0)) H := hP
      have hD : va_D A (px cI a qs qk qv qb qn n Z K V P (upd N (ls_ y1 t1) (N p0)) my fr md fi (P p0)) := hD
      exact cg_vret (u := ()) hQ hx hb hr hlk hK hP hD hS rfl d_pr_unlink_78
    | cons y2 t2 =>
      have e2 : N p0 = nI y2 := e2
      refine lv_aload_n hx hb d_pr_unlink_39 rfl (lv_at hl 0 rfl) ?_
      refine va_get (D := D) (ci := 2) (v := .ref qn) (C := R_pr) (T := F_pr) (N := 10) hx hb hts i_pr hown hK hP 0 rfl rfl 4 (by decide) (hts _ kf_pr_22) (fun _ h9 => h9) rfl d_pr_unlink_40 ?_
      refine lv_iload_n hx hb d_pr_unlink_43 rfl (lv_at hl 1 rfl) ?_
      refine wa_ld (k := p0) hx hb hK hP 5 0 rfl rfl hp0 hn d_pr_unlink_44 ?_
      refine tp_i (y := nI y2) ((pk_un (fun z9 => hb2 z9.symm)).trans e2) ?_
      refine lv_if_lt (tgt := 68) hx hb d_pr_unlink_45 (by decide) (fun z9 => absurd z9 (nI_pos (by have := h2n y2 (List.mem_cons_self ..); omega))) (fun _ => ?_)
      refine lv_aload_n hx hb d_pr_unlink_48 rfl (lv_at hl 0 rfl) ?_
      refine va_get (D := D) (ci := 2) (v := .ref qb) (C := R_pr) (T := F_pr) (N := 10) hx hb hts i_pr hown hK hP 0 rfl rfl 3 (by decide) (hts _ kf_pr_19) (fun _ h9 => h9) rfl d_pr_unlink_49 ?_
      refine lv_aload_n hx hb d_pr_unlink_52 rfl (lv_at hl 0 rfl) ?_
      refine va_get (D := D) (ci := 2) (v := .ref qn) (C := R_pr) (T := F_pr) (N := 10) hx hb hts i_pr hown hK hP 0 rfl rfl 4 (by decide) (hts _ kf_pr_22) (fun _ h9 => h9) rfl d_pr_unlink_53 ?_
      refine lv_iload_n hx hb d_pr_unlink_56 rfl (lv_at hl 1 rfl) ?_
      refine wa_ld (k := p0) hx hb hK hP 5 0 rfl rfl hp0 hn d_pr_unlink_57 ?_
      refine tp_i (y := nI y2) ((pk_un (fun z9 => hb2 z9.symm)).trans e2) ?_
      refine lv_aload_n hx hb d_pr_unlink_58 rfl (lv_at hl 0 rfl) ?_
      refine va_get (D := D) (ci := 2) (v := .ref qb) (C := R_pr) (T := F_pr) (N := 10) hx hb hts i_pr hown hK hP 0 rfl rfl 3 (by decide) (hts _ kf_pr_19) (fun _ h9 => h9) rfl d_pr_unlink_59 ?_
      refine lv_iload_n hx hb d_pr_unlink_62 rfl (lv_at hl 1 rfl) ?_
      refine wa_ld (k := p0) hx hb hK hP 4 0 rfl rfl hp0 hn d_pr_unlink_63 ?_
      refine wa_st (k := y2) (x := (P p0)) hx hb hK hP hD hS 4 0 rfl rfl (h2n y2 (List.mem_cons_self ..)) hn d_pr_unlink_64 (fun H locs hP hD hS => ?_)
      have hP : va_P D cls (px cI a qs qk qv qb qn n Z K V (upd P y2 (P p0)) (upd N (ls_ y1 t1) (N p0)) my fr md fi la) H := hP
      have hD : va_D A (px cI a qs qk qv qb qn n Z K V (upd P y2 (P p0)) (upd N (ls_ y1 t1) (N p0)) my fr md fi la) := hD
      refine lv_goto (tgt := 78) hx hb d_pr_unlink_65 (by decide) ?_
      exact cg_vret (u := ()) hQ hx hb hr hlk hK hP hD hS rfl d_pr_unlink_78
set_option maxRecDepth 100000 in
set_option maxHeartbeats 4000000 in
/-- toLast(p0) -/
theorem c_pr_toLast (l : Launch) (D : va_G) (cI cT cP : ClassId) (a qs qk qv qb qn n : Nat) (Z K V P N : Nat → Int32) (my fr md fi la : Int32) (l1 l2 : List Nat) (p0 : Nat) (hn : n < 2 ^ 31) (nd : (l1 ++ p0 :: l2).Nodup) (hlt : ∀ x, x ∈ l1 ++ p0 :: l2 → x < n) (hPN : PN P N fi la (l1 ++ p0 :: l2)) : Cg l y_pr_toLast b_pr_toLast 2 (none) 1 0 0 D (ty3 cI cT cP) [.ref a, .int (nI p0)] (px cI a qs qk qv qb qn n Z K V P N my fr md fi la) (fun (v : Option Value) (u : (Nat → Int32) × (Nat → Int32) × Int32 × Int32) => v = none ∧ PN u.1 u.2.1 u.2.2.1 u.2.2.2 ((l1 ++ l2) ++ [p0]) ∧ ∀ x, x ∉ l1 ++ p0 :: l2 → u.2.1 x = N x) (fun u => px cI a qs qk qv qb qn n Z K V u.1 u.2.1 my fr md u.2.2.1 u.2.2.2) := by
  obtain ⟨q1, q2, q3⟩ := pn_cut nd hPN
  have nd2 : (l1 ++ l2).Nodup := List.Nodup.sublist (List.Sublist.append_left (List.sublist_cons_self ..) _) nd
  have hp2 : p0 ∉ l1 ++ l2 := by
      have h9 : (p0 :: (l1 ++ l2)).Nodup := List.perm_middle.nodup_iff.mp nd
      exact (List.nodup_cons.mp h9).1
  obtain ⟨q4, q5⟩ := pn_add nd2 hp2 q3
  have hp0 : p0 < n := hlt p0 (List.mem_append_right _ (List.mem_cons_self ..))
  have hsub : ∀ x, x ∈ l1 ++ l2 → x ∈ l1 ++ p0 :: l2 := fun x hx1 => by
      rcases List.mem_append.mp hx1 with h | h
      · exact List.mem_append_left _ h
      · exact List.mem_append_right _ (List.mem_cons_of_mem _ h)
  refine cg_enter rfl (Nat.le_of_ble_eq_true rfl) ?_
  intro p e s m below meth c args hx hb hr hlk hml hown hin hts A hA hK hP hD hS ls hl Q hQ
  have hl : lv_has ls 2 [(0, .ref a), (1, .int (nI p0))] := hl
  have hP : va_P D cls (px cI a qs qk qv qb qn n Z K V P N my fr md fi la) s.heap := hP
  have hD : va_D A (px cI a qs qk qv qb qn n Z K V P N my fr md fi la) := hD
  refine lv_aload_n hx hb d_pr_toLast_0 rfl (lv_at hl 0 rfl) ?_
  refine lv_iload_n hx hb d_pr_toLast_1 rfl (lv_at hl 1 rfl) ?_
  refine cg_V (hn := 1) (As := [.int (nI p0)]) (rest := []) (wr := []) (q0 := 0) (ci := 2) hx hb hml hown hts (c_pr_unlink l D cI cT cP a qs qk qv qb qn n Z K V P N my fr md fi la hn l1 l2 p0 hp0 q1 q2 (fun x hx1 => ⟨hlt x (List.mem_append_left _ hx1), fun z9 => hp2 (by rw [← z9]; exact List.mem_append_left _ hx1)⟩) (fun x hx1 => hlt x (List.mem_append_right _ (List.mem_cons_of_mem _ hx1)))) km_pr_64 ki_pr_unlink ks_pr_unlink kn_pr kc_pr_unlink (by decide +kernel) rfl ⟨Nat.le_of_ble_eq_true rfl, Nat.le_of_ble_eq_true rfl⟩ hK hP hD hS hA [0, 1, 2, 3, 4, 5] [] rfl (by decide) rfl (by decide) (by decide) rfl rfl hl.1 rfl (Nat.le_of_ble_eq_true rfl) d_pr_toLast_2 ⟨Nat.zero_le _, Nat.zero_le _⟩ (fun v u H locs hpost hP hD hS => ?_)
  subst hpost
  rw [q4] at hP hD q5
  refine W.eq (g2 := F0 m 5 ls []) rfl ?_
  have hP : va_P D cls (px cI a qs qk qv qb qn n Z K V ((cB P la (P p0) l2).1) ((cN N fi (N p0) l1).1) my fr md ((cN N fi (N p0) l1).2) (lsI (l1 ++ l2))) H := hP
  have hD : va_D A (px cI a qs qk qv qb qn n Z K V ((cB P la (P p0) l2).1) ((cN N fi (N p0) l1).1) my fr md ((cN N fi (N p0) l1).2) (lsI (l1 ++ l2))) := hD
  refine lv_aload_n hx hb d_pr_toLast_5 rfl (lv_at hl 0 rfl) ?_
  refine lv_iload_n hx hb d_pr_toLast_6 rfl (lv_at hl 1 rfl) ?_
  refine cg_V (hn := 1) (As := [.int (nI p0)]) (rest := []) (wr := []) (q0 := 0) (ci := 2) hx hb hml hown hts (c_pr_link l D cI cT cP a qs qk qv qb qn n Z K V (cB P la (P p0) l2).1 (cN N fi (N p0) l1).1 my fr md (cN N fi (N p0) l1).2 hn (l1 ++ l2) (fun x hx1 => hlt x (hsub x hx1)) p0 hp0) km_pr_60 ki_pr_link ks_pr_link kn_pr kc_pr_link (by decide +kernel) rfl ⟨Nat.le_of_ble_eq_true rfl, Nat.le_of_ble_eq_true rfl⟩ hK hP hD hS hA [0, 1, 2, 3, 4, 5] [] rfl (by decide) rfl (by decide) (by decide) rfl rfl hl.1 rfl (Nat.le_of_ble_eq_true rfl) d_pr_toLast_7 ⟨Nat.zero_le _, Nat.zero_le _⟩ (fun v u H locs hpost hP hD hS => ?_)
  subst hpost
  refine W.eq (g2 := F0 m 10 ls []) rfl ?_
  have hP : va_P D cls (px cI a qs qk qv qb qn n Z K V (upd (cB P la (P p0) l2).1 p0 (lsI (l1 ++ l2))) ((cL (cN N fi (N p0) l1).1 (cN N fi (N p0) l1).2 (-1) p0 (l1 ++ l2)).1) my fr md ((cL (cN N fi (N p0) l1).1 (cN N fi (N p0) l1).2 (-1) p0 (l1 ++ l2)).2) (nI p0)) H := hP
  have hD : va_D A (px cI a qs qk qv qb qn n Z K V (upd (cB P la (P p0) l2).1 p0 (lsI (l1 ++ l2))) ((cL (cN N fi (N p0) l1).1 (cN N fi (N p0) l1).2 (-1) p0 (l1 ++ l2)).1) my fr md ((cL (cN N fi (N p0) l1).1 (cN N fi (N p0) l1).2 (-1) p0 (l1 ++ l2)).2) (nI p0)) := hD
  exact cg_vret (u := (upd (cB P la (P p0) l2).1 p0 (lsI (l1 ++ l2)), (cL (cN N fi (N p0) l1).1 (cN N fi (N p0) l1).2 (-1) p0 (l1 ++ l2)).1, (cL (cN N fi (N p0) l1).1 (cN N fi (N p0) l1).2 (-1) p0 (l1 ++ l2)).2, nI p0)) hQ hx hb hr hlk hK hP hD hS (⟨rfl, q5, fun x hx1 => by
      show (cL (cN N fi (N p0) l1).1 (cN N fi (N p0) l1).2 (-1) p0 (l1 ++ l2)).1 x = N x
      rw [cL_out (fun z9 => hx1 (hsub x z9)) (fun z9 => hx1 (by rw [z9]; exact List.mem_append_right _ (List.mem_cons_self ..))), cN_out (fun z9 => hx1 (List.mem_append_left _ z9))]⟩) d_pr_toLast_10
set_option maxRecDepth 100000 in
set_option maxHeartbeats 4000000 in
/-- grow() -/
theorem c_pr_grow (l : Launch) (D : va_G) (cI cT cP : ClassId) (a qs qk qv qb qn n : Nat) (Z K V P N : Nat → Int32) (my fr fi la : Int32) (hn16 : 16 ≤ n ∧ n ≤ 1024) : Cg l y_pr_grow b_pr_grow 2 (none) 2 5 (5 * (2 * n)) D (ty3 cI cT cP) [.ref a] (px cI a qs qk qv qb qn n Z K V P N my fr (nI n) fi la) (fun (v : Option Value) (u : Nat × Nat × Nat × Nat × Nat) => v = none) (fun u => px cI a u.1 u.2.1 u.2.2.1 u.2.2.2.1 u.2.2.2.2 (2 * n) (cpy n Z) (cpy n K) (cpy n V) (cpy n P) (cpy n N) my fr (nI n) fi la) := by
  refine cg_enter rfl (Nat.le_of_ble_eq_true rfl) ?_
  intro p e s m below meth c args hx hb hr hlk hml hown hin hts A hA hK hP hD hS ls hl Q hQ
  have hl : lv_has ls 2 [(0, .ref a)] := hl
  have hP : va_P D cls (px cI a qs qk qv qb qn n Z K V P N my fr (nI n) fi la) s.heap := hP
  have hD : va_D A (px cI a qs qk qv qb qn n Z K V P N my fr (nI n) fi la) := hD
  have hP : va_P D cls ([(a, .inr (2, [.ref qs, .ref qk, .ref qv, .ref qb, .ref qn, .int my, .int fr, .int (nI n), .int fi, .int la])), (qs, .inl (cI, n, .inl Z)), (qk, .inl (cI, n, .inl K)), (qv, .inl (cI, n, .inl V)), (qb, .inl (cI, n, .inl P)), (qn, .inl (cI, n, .inl N))]) s.heap := hP
  have hD : va_D A ([(a, .inr (2, [.ref qs, .ref qk, .ref qv, .ref qb, .ref qn, .int my, .int fr, .int (nI n), .int fi, .int la])), (qs, .inl (cI, n, .inl Z)), (qk, .inl (cI, n, .inl K)), (qv, .inl (cI, n, .inl V)), (qb, .inl (cI, n, .inl P)), (qn, .inl (cI, n, .inl N))]) := hD
  refine lv_iconst (v := 2) hx hb d_pr_grow_0 (by decide) ?_
  refine lv_aload_n hx hb d_pr_grow_1 rfl (lv_at hl 0 rfl) ?_
  refine va_get (D := D) (ci := 2) (v := .int (nI n)) (C := R_pr) (T := F_pr) (N := 10) hx hb hts i_pr hown hK hP 0 rfl rfl 7 (by decide) (hts _ kf_pr_42) (fun _ h9 => h9) rfl d_pr_grow_2 ?_
  refine lv_imul hx hb d_pr_grow_5 ?_
  refine tp_i (y := nI (2 * n)) (pk_mul 2 n) ?_
  refine lv_istore_n (lv' := [(1, .int (nI (2 * n))), (0, .ref a)]) hx hb d_pr_grow_6 rfl hl (by decide) rfl (fun ls hl => ?_)
  refine lv_aload_n hx hb d_pr_grow_7 rfl (lv_at hl 1 rfl) ?_
  refine lv_aload_n hx hb d_pr_grow_8 rfl (lv_at hl 1 rfl) ?_
  refine va_get (D := D) (ci := 2) (v := .ref qs) (C := R_pr) (T := F_pr) (N := 10) hx hb hts i_pr hown hK hP 0 rfl rfl 0 (by decide) (hts _ kf_pr_7) (fun _ h9 => h9) rfl d_pr_grow_9 ?_
  refine lv_iload_n hx hb d_pr_grow_12 rfl (lv_at hl 0 rfl) ?_
  refine cg_S (hn := 2) (As := [.ref qs, .int (nI (2 * n))]) (rest := [.ref a]) (wr := [(a, .inr (2, [.ref qs, .ref qk, .ref qv, .ref qb, .ref qn, .int my, .int fr, .int (nI n), .int fi, .int la])), (qk, .inl (cI, n, .inl K)), (qv, .inl (cI, n, .inl V)), (qb, .inl (cI, n, .inl P)), (qn, .inl (cI, n, .inl N))]) hx hb hml hown hts (c_ja_copyOf l D cI cT cP qs n (2 * n) Z (by omega) (by omega)) km_pr_45 kt_ja_copyOf kn_ja kc_ja_copyOf (by decide +kernel) rfl ⟨Nat.le_of_ble_eq_true rfl, Nat.le_of_ble_eq_true rfl⟩ hK hP hD hS hA [1] [0, 2, 3, 4, 5] rfl (by decide) rfl (by decide) (by decide) hl.1 rfl (Nat.le_of_ble_eq_true rfl) d_pr_grow_13 ⟨by show _ ≤ 5; omega, by show _ ≤ 5 * (2 * n); omega⟩ (fun v rs H locs hpost hP hD hS => ?_)
  subst hpost
  refine W.eq (g2 := F0 m 16 ls [.ref rs, .ref a]) rfl ?_
  have hP : va_P D cls ([(a, .inr (2, [.ref qs, .ref qk, .ref qv, .ref qb, .ref qn, .int my, .int fr, .int (nI n), .int fi, .int la])), (qk, .inl (cI, n, .inl K)), (qv, .inl (cI, n, .inl V)), (qb, .inl (cI, n, .inl P)), (qn, .inl (cI, n, .inl N)), (qs, .inl (cI, n, .inl Z)), (rs, .inl (cI, 2 * n, .inl (cpy n Z)))]) H := hP
  have hD : va_D A ([(a, .inr (2, [.ref qs, .ref qk, .ref qv, .ref qb, .ref qn, .int my, .int fr, .int (nI n), .int fi, .int la])), (qk, .inl (cI, n, .inl K)), (qv, .inl (cI, n, .inl V)), (qb, .inl (cI, n, .inl P)), (qn, .inl (cI, n, .inl N)), (qs, .inl (cI, n, .inl Z)), (rs, .inl (cI, 2 * n, .inl (cpy n Z)))]) := hD
  refine va_put (D := D) (ci := 2) (v := .ref rs) (ty := .array .int) (C := R_pr) (T := F_pr) (N := 10) hx hb hts i_pr t_pr t_pr_ok n_pr hown hK hP hD hS 0 rfl rfl 0 (by decide) (hts _ kf_pr_7) (fun _ h9 => h9) rfl (by decide +kernel) rfl rfl (Nat.le_of_ble_eq_true rfl) d_pr_grow_16 (fun H locs hP hD hS => ?_)
  have hP : va_P D cls ([(a, .inr (2, [.ref rs, .ref qk, .ref qv, .ref qb, .ref qn, .int my, .int fr, .int (nI n), .int fi, .int la])), (qk, .inl (cI, n, .inl K)), (qv, .inl (cI, n, .inl V)), (qb, .inl (cI, n, .inl P)), (qn, .inl (cI, n, .inl N)), (qs, .inl (cI, n, .inl Z)), (rs, .inl (cI, 2 * n, .inl (cpy n Z)))]) H := hP
  have hD : va_D A ([(a, .inr (2, [.ref rs, .ref qk, .ref qv, .ref qb, .ref qn, .int my, .int fr, .int (nI n), .int fi, .int la])), (qk, .inl (cI, n, .inl K)), (qv, .inl (cI, n, .inl V)), (qb, .inl (cI, n, .inl P)), (qn, .inl (cI, n, .inl N)), (qs, .inl (cI, n, .inl Z)), (rs, .inl (cI, 2 * n, .inl (cpy n Z)))]) := hD
  refine lv_aload_n hx hb d_pr_grow_19 rfl (lv_at hl 1 rfl) ?_
  refine lv_aload_n hx hb d_pr_grow_20 rfl (lv_at hl 1 rfl) ?_
  refine va_get (D := D) (ci := 2) (v := .ref qk) (C := R_pr) (T := F_pr) (N := 10) hx hb hts i_pr hown hK hP 0 rfl rfl 1 (by decide) (hts _ kf_pr_13) (fun _ h9 => h9) rfl d_pr_grow_21 ?_
  refine lv_iload_n hx hb d_pr_grow_24 rfl (lv_at hl 0 rfl) ?_
  refine cg_S (hn := 2) (As := [.ref qk, .int (nI (2 * n))]) (rest := [.ref a]) (wr := [(a, .inr (2, [.ref rs, .ref qk, .ref qv, .ref qb, .ref qn, .int my, .int fr, .int (nI n), .int fi, .int la])), (qv, .inl (cI, n, .inl V)), (qb, .inl (cI, n, .inl P)), (qn, .inl (cI, n, .inl N)), (qs, .inl (cI, n, .inl Z)), (rs, .inl (cI, 2 * n, .inl (cpy n Z)))]) hx hb hml hown hts (c_ja_copyOf l D cI cT cP qk n (2 * n) K (by omega) (by omega)) km_pr_45 kt_ja_copyOf kn_ja kc_ja_copyOf (by decide +kernel) rfl ⟨Nat.le_of_ble_eq_true rfl, Nat.le_of_ble_eq_true rfl⟩ hK hP hD hS hA [1] [0, 2, 3, 4, 5, 6] rfl (by decide) rfl (by decide) (by decide) hl.1 rfl (Nat.le_of_ble_eq_true rfl) d_pr_grow_25 ⟨by show _ ≤ 5; omega, by show _ ≤ 5 * (2 * n); omega⟩ (fun v rk H locs hpost hP hD hS => ?_)
  subst hpost
  refine W.eq (g2 := F0 m 28 ls [.ref rk, .ref a]) rfl ?_
  have hP : va_P D cls ([(a, .inr (2, [.ref rs, .ref qk, .ref qv, .ref qb, .ref qn, .int my, .int fr, .int (nI n), .int fi, .int la])), (qv, .inl (cI, n, .inl V)), (qb, .inl (cI, n, .inl P)), (qn, .inl (cI, n, .inl N)), (qs, .inl (cI, n, .inl Z)), (rs, .inl (cI, 2 * n, .inl (cpy n Z))), (qk, .inl (cI, n, .inl K)), (rk, .inl (cI, 2 * n, .inl (cpy n K)))]) H := hP
  have hD : va_D A ([(a, .inr (2, [.ref rs, .ref qk, .ref qv, .ref qb, .ref qn, .int my, .int fr, .int (nI n), .int fi, .int la])), (qv, .inl (cI, n, .inl V)), (qb, .inl (cI, n, .inl P)), (qn, .inl (cI, n, .inl N)), (qs, .inl (cI, n, .inl Z)), (rs, .inl (cI, 2 * n, .inl (cpy n Z))), (qk, .inl (cI, n, .inl K)), (rk, .inl (cI, 2 * n, .inl (cpy n K)))]) := hD
  refine va_put (D := D) (ci := 2) (v := .ref rk) (ty := .array .int) (C := R_pr) (T := F_pr) (N := 10) hx hb hts i_pr t_pr t_pr_ok n_pr hown hK hP hD hS 0 rfl rfl 1 (by decide) (hts _ kf_pr_13) (fun _ h9 => h9) rfl (by decide +kernel) rfl rfl (Nat.le_of_ble_eq_true rfl) d_pr_grow_28 (fun H locs hP hD hS => ?_)
  have hP : va_P D cls ([(a, .inr (2, [.ref rs, .ref rk, .ref qv, .ref qb, .ref qn, .int my, .int fr, .int (nI n), .int fi, .int la])), (qv, .inl (cI, n, .inl V)), (qb, .inl (cI, n, .inl P)), (qn, .inl (cI, n, .inl N)), (qs, .inl (cI, n, .inl Z)), (rs, .inl (cI, 2 * n, .inl (cpy n Z))), (qk, .inl (cI, n, .inl K)), (rk, .inl (cI, 2 * n, .inl (cpy n K)))]) H := hP
  have hD : va_D A ([(a, .inr (2, [.ref rs, .ref rk, .ref qv, .ref qb, .ref qn, .int my, .int fr, .int (nI n), .int fi, .int la])), (qv, .inl (cI, n, .inl V)), (qb, .inl (cI, n, .inl P)), (qn, .inl (cI, n, .inl N)), (qs, .inl (cI, n, .inl Z)), (rs, .inl (cI, 2 * n, .inl (cpy n Z))), (qk, .inl (cI, n, .inl K)), (rk, .inl (cI, 2 * n, .inl (cpy n K)))]) := hD
  refine lv_aload_n hx hb d_pr_grow_31 rfl (lv_at hl 1 rfl) ?_
  refine lv_aload_n hx hb d_pr_grow_32 rfl (lv_at hl 1 rfl) ?_
  refine va_get (D := D) (ci := 2) (v := .ref qv) (C := R_pr) (T := F_pr) (N := 10) hx hb hts i_pr hown hK hP 0 rfl rfl 2 (by decide) (hts _ kf_pr_16) (fun _ h9 => h9) rfl d_pr_grow_33 ?_
  refine lv_iload_n hx hb d_pr_grow_36 rfl (lv_at hl 0 rfl) ?_
  refine cg_S (hn := 2) (As := [.ref qv, .int (nI (2 * n))]) (rest := [.ref a]) (wr := [(a, .inr (2, [.ref rs, .ref rk, .ref qv, .ref qb, .ref qn, .int my, .int fr, .int (nI n), .int fi, .int la])), (qb, .inl (cI, n, .inl P)), (qn, .inl (cI, n, .inl N)), (qs, .inl (cI, n, .inl Z)), (rs, .inl (cI, 2 * n, .inl (cpy n Z))), (qk, .inl (cI, n, .inl K)), (rk, .inl (cI, 2 * n, .inl (cpy n K)))]) hx hb hml hown hts (c_ja_copyOf l D cI cT cP qv n (2 * n) V (by omega) (by omega)) km_pr_45 kt_ja_copyOf kn_ja kc_ja_copyOf (by decide +kernel) rfl ⟨Nat.le_of_ble_eq_true rfl, Nat.le_of_ble_eq_true rfl⟩ hK hP hD hS hA [1] [0, 2, 3, 4, 5, 6, 7] rfl (by decide) rfl (by decide) (by decide) hl.1 rfl (Nat.le_of_ble_eq_true rfl) d_pr_grow_37 ⟨by show _ ≤ 5; omega, by show _ ≤ 5 * (2 * n); omega⟩ (fun v rv H locs hpost hP hD hS => ?_)
  subst hpost
  refine W.eq (g2 := F0 m 40 ls [.ref rv, .ref a]) rfl ?_
  have hP : va_P D cls ([(a, .inr (2, [.ref rs, .ref rk, .ref qv, .ref qb, .ref qn, .int my, .int fr, .int (nI n), .int fi, .int la])), (qb, .inl (cI, n, .inl P)), (qn, .inl (cI, n, .inl N)), (qs, .inl (cI, n, .inl Z)), (rs, .inl (cI, 2 * n, .inl (cpy n Z))), (qk, .inl (cI, n, .inl K)), (rk, .inl (cI, 2 * n, .inl (cpy n K))), (qv, .inl (cI, n, .inl V)), (rv, .inl (cI, 2 * n, .inl (cpy n V)))]) H := hP
  have hD : va_D A ([(a, .inr (2, [.ref rs, .ref rk, .ref qv, .ref qb, .ref qn, .int my, .int fr, .int (nI n), .int fi, .int la])), (qb, .inl (cI, n, .inl P)), (qn, .inl (cI, n, .inl N)), (qs, .inl (cI, n, .inl Z)), (rs, .inl (cI, 2 * n, .inl (cpy n Z))), (qk, .inl (cI, n, .inl K)), (rk, .inl (cI, 2 * n, .inl (cpy n K))), (qv, .inl (cI, n, .inl V)), (rv, .inl (cI, 2 * n, .inl (cpy n V)))]) := hD
  refine va_put (D := D) (ci := 2) (v := .ref rv) (ty := .array .int) (C := R_pr) (T := F_pr) (N := 10) hx hb hts i_pr t_pr t_pr_ok n_pr hown hK hP hD hS 0 rfl rfl 2 (by decide) (hts _ kf_pr_16) (fun _ h9 => h9) rfl (by decide +kernel) rfl rfl (Nat.le_of_ble_eq_true rfl) d_pr_grow_40 (fun H locs hP hD hS => ?_)
  have hP : va_P D cls ([(a, .inr (2, [.ref rs, .ref rk, .ref rv, .ref qb, .ref qn, .int my, .int fr, .int (nI n), .int fi, .int la])), (qb, .inl (cI, n, .inl P)), (qn, .inl (cI, n, .inl N)), (qs, .inl (cI, n, .inl Z)), (rs, .inl (cI, 2 * n, .inl (cpy n Z))), (qk, .inl (cI, n, .inl K)), (rk, .inl (cI, 2 * n, .inl (cpy n K))), (qv, .inl (cI, n, .inl V)), (rv, .inl (cI, 2 * n, .inl (cpy n V)))]) H := hP
  have hD : va_D A ([(a, .inr (2, [.ref rs, .ref rk, .ref rv, .ref qb, .ref qn, .int my, .int fr, .int (nI n), .int fi, .int la])), (qb, .inl (cI, n, .inl P)), (qn, .inl (cI, n, .inl N)), (qs, .inl (cI, n, .inl Z)), (rs, .inl (cI, 2 * n, .inl (cpy n Z))), (qk, .inl (cI, n, .inl K)), (rk, .inl (cI, 2 * n, .inl (cpy n K))), (qv, .inl (cI, n, .inl V)), (rv, .inl (cI, 2 * n, .inl (cpy n V)))]) := hD
  refine lv_aload_n hx hb d_pr_grow_43 rfl (lv_at hl 1 rfl) ?_
  refine lv_aload_n hx hb d_pr_grow_44 rfl (lv_at hl 1 rfl) ?_
  refine va_get (D := D) (ci := 2) (v := .ref qb) (C := R_pr) (T := F_pr) (N := 10) hx hb hts i_pr hown hK hP 0 rfl rfl 3 (by decide) (hts _ kf_pr_19) (fun _ h9 => h9) rfl d_pr_grow_45 ?_
  refine lv_iload_n hx hb d_pr_grow_48 rfl (lv_at hl 0 rfl) ?_
  refine cg_S (hn := 2) (As := [.ref qb, .int (nI (2 * n))]) (rest := [.ref a]) (wr := [(a, .inr (2, [.ref rs, .ref rk, .ref rv, .ref qb, .ref qn, .int my, .int fr, .int (nI n), .int fi, .int la])), (qn, .inl (cI, n, .inl N)), (qs, .inl (cI, n, .inl Z)), (rs, .inl (cI, 2 * n, .inl (cpy n Z))), (qk, .inl (cI, n, .inl K)), (rk, .inl (cI, 2 * n, .inl (cpy n K))), (qv, .inl (cI, n, .inl V)), (rv, .inl (cI, 2 * n, .inl (cpy n V)))]) hx hb hml hown hts (c_ja_copyOf l D cI cT cP qb n (2 * n) P (by omega) (by omega)) km_pr_45 kt_ja_copyOf kn_ja kc_ja_copyOf (by decide +kernel) rfl ⟨Nat.le_of_ble_eq_true rfl, Nat.le_of_ble_eq_true rfl⟩ hK hP hD hS hA [1] [0, 2, 3, 4, 5, 6, 7, 8] rfl (by decide) rfl (by decide) (by decide) hl.1 rfl (Nat.le_of_ble_eq_true rfl) d_pr_grow_49 ⟨by show _ ≤ 5; omega, by show _ ≤ 5 * (2 * n); omega⟩ (fun v rb H locs hpost hP hD hS => ?_)
  subst hpost
  refine W.eq (g2 := F0 m 52 ls [.ref rb, .ref a]) rfl ?_
  have hP : va_P D cls ([(a, .inr (2, [.ref rs, .ref rk, .ref rv, .ref qb, .ref qn, .int my, .int fr, .int (nI n), .int fi, .int la])), (qn, .inl (cI, n, .inl N)), (qs, .inl (cI, n, .inl Z)), (rs, .inl (cI, 2 * n, .inl (cpy n Z))), (qk, .inl (cI, n, .inl K)), (rk, .inl (cI, 2 * n, .inl (cpy n K))), (qv, .inl (cI, n, .inl V)), (rv, .inl (cI, 2 * n, .inl (cpy n V))), (qb, .inl (cI, n, .inl P)), (rb, .inl (cI, 2 * n, .inl (cpy n P)))]) H := hP
  have hD : va_D A ([(a, .inr (2, [.ref rs, .ref rk, .ref rv, .ref qb, .ref qn, .int my, .int fr, .int (nI n), .int fi, .int la])), (qn, .inl (cI, n, .inl N)), (qs, .inl (cI, n, .inl Z)), (rs, .inl (cI, 2 * n, .inl (cpy n Z))), (qk, .inl (cI, n, .inl K)), (rk, .inl (cI, 2 * n, .inl (cpy n K))), (qv, .inl (cI, n, .inl V)), (rv, .inl (cI, 2 * n, .inl (cpy n V))), (qb, .inl (cI, n, .inl P)), (rb, .inl (cI, 2 * n, .inl (cpy n P)))]) := hD
  refine va_put (D := D) (ci := 2) (v := .ref rb) (ty := .array .int) (C := R_pr) (T := F_pr) (N := 10) hx hb hts i_pr t_pr t_pr_ok n_pr hown hK hP hD hS 0 rfl rfl 3 (by decide) (hts _ kf_pr_19) (fun _ h9 => h9) rfl (by decide +kernel) rfl rfl (Nat.le_of_ble_eq_true rfl) d_pr_grow_52 (fun H locs hP hD hS => ?_)
  have hP : va_P D cls ([(a, .inr (2, [.ref rs, .ref rk, .ref rv, .ref rb, .ref qn, .int my, .int fr, .int (nI n), .int fi, .int la])), (qn, .inl (cI, n, .inl N)), (qs, .inl (cI, n, .inl Z)), (rs, .inl (cI, 2 * n, .inl (cpy n Z))), (qk, .inl (cI, n, .inl K)), (rk, .inl (cI, 2 * n, .inl (cpy n K))), (qv, .inl (cI, n, .inl V)), (rv, .inl (cI, 2 * n, .inl (cpy n V))), (qb, .inl (cI, n, .inl P)), (rb, .inl (cI, 2 * n, .inl (cpy n P)))]) H := hP
  have hD : va_D A ([(a, .inr (2, [.ref rs, .ref rk, .ref rv, .ref rb, .ref qn, .int my, .int fr, .int (nI n), .int fi, .int la])), (qn, .inl (cI, n, .inl N)), (qs, .inl (cI, n, .inl Z)), (rs, .inl (cI, 2 * n, .inl (cpy n Z))), (qk, .inl (cI, n, .inl K)), (rk, .inl (cI, 2 * n, .inl (cpy n K))), (qv, .inl (cI, n, .inl V)), (rv, .inl (cI, 2 * n, .inl (cpy n V))), (qb, .inl (cI, n, .inl P)), (rb, .inl (cI, 2 * n, .inl (cpy n P)))]) := hD
  refine lv_aload_n hx hb d_pr_grow_55 rfl (lv_at hl 1 rfl) ?_
  refine lv_aload_n hx hb d_pr_grow_56 rfl (lv_at hl 1 rfl) ?_
  refine va_get (D := D) (ci := 2) (v := .ref qn) (C := R_pr) (T := F_pr) (N := 10) hx hb hts i_pr hown hK hP 0 rfl rfl 4 (by decide) (hts _ kf_pr_22) (fun _ h9 => h9) rfl d_pr_grow_57 ?_
  refine lv_iload_n hx hb d_pr_grow_60 rfl (lv_at hl 0 rfl) ?_
  refine cg_S (hn := 2) (As := [.ref qn, .int (nI (2 * n))]) (rest := [.ref a]) (wr := [(a, .inr (2, [.ref rs, .ref rk, .ref rv, .ref rb, .ref qn, .int my, .int fr, .int (nI n), .int fi, .int la])), (qs, .inl (cI, n, .inl Z)), (rs, .inl (cI, 2 * n, .inl (cpy n Z))), (qk, .inl (cI, n, .inl K)), (rk, .inl (cI, 2 * n, .inl (cpy n K))), (qv, .inl (cI, n, .inl V)), (rv, .inl (cI, 2 * n, .inl (cpy n V))), (qb, .inl (cI, n, .inl P)), (rb, .inl (cI, 2 * n, .inl (cpy n P)))]) hx hb hml hown hts (c_ja_copyOf l D cI cT cP qn n (2 * n) N (by omega) (by omega)) km_pr_45 kt_ja_copyOf kn_ja kc_ja_copyOf (by decide +kernel) rfl ⟨Nat.le_of_ble_eq_true rfl, Nat.le_of_ble_eq_true rfl⟩ hK hP hD hS hA [1] [0, 2, 3, 4, 5, 6, 7, 8, 9] rfl (by decide) rfl (by decide) (by decide) hl.1 rfl (Nat.le_of_ble_eq_true rfl) d_pr_grow_61 ⟨by show _ ≤ 5; omega, by show _ ≤ 5 * (2 * n); omega⟩ (fun v rn H locs hpost hP hD hS => ?_)
  subst hpost
  refine W.eq (g2 := F0 m 64 ls [.ref rn, .ref a]) rfl ?_
  have hP : va_P D cls ([(a, .inr (2, [.ref rs, .ref rk, .ref rv, .ref rb, .ref qn, .int my, .int fr, .int (nI n), .int fi, .int la])), (qs, .inl (cI, n, .inl Z)), (rs, .inl (cI, 2 * n, .inl (cpy n Z))), (qk, .inl (cI, n, .inl K)), (rk, .inl (cI, 2 * n, .inl (cpy n K))), (qv, .inl (cI, n, .inl V)), (rv, .inl (cI, 2 * n, .inl (cpy n V))), (qb, .inl (cI, n, .inl P)), (rb, .inl (cI, 2 * n, .inl (cpy n P))), (qn, .inl (cI, n, .inl N)), (rn, .inl (cI, 2 * n, .inl (cpy n N)))]) H := hP
  have hD : va_D A ([(a, .inr (2, [.ref rs, .ref rk, .ref rv, .ref rb, .ref qn, .int my, .int fr, .int (nI n), .int fi, .int la])), (qs, .inl (cI, n, .inl Z)), (rs, .inl (cI, 2 * n, .inl (cpy n Z))), (qk, .inl (cI, n, .inl K)), (rk, .inl (cI, 2 * n, .inl (cpy n K))), (qv, .inl (cI, n, .inl V)), (rv, .inl (cI, 2 * n, .inl (cpy n V))), (qb, .inl (cI, n, .inl P)), (rb, .inl (cI, 2 * n, .inl (cpy n P))), (qn, .inl (cI, n, .inl N)), (rn, .inl (cI, 2 * n, .inl (cpy n N)))]) := hD
  refine va_put (D := D) (ci := 2) (v := .ref rn) (ty := .array .int) (C := R_pr) (T := F_pr) (N := 10) hx hb hts i_pr t_pr t_pr_ok n_pr hown hK hP hD hS 0 rfl rfl 4 (by decide) (hts _ kf_pr_22) (fun _ h9 => h9) rfl (by decide +kernel) rfl rfl (Nat.le_of_ble_eq_true rfl) d_pr_grow_64 (fun H locs hP hD hS => ?_)
  have hP : va_P D cls ([(a, .inr (2, [.ref rs, .ref rk, .ref rv, .ref rb, .ref rn, .int my, .int fr, .int (nI n), .int fi, .int la])), (qs, .inl (cI, n, .inl Z)), (rs, .inl (cI, 2 * n, .inl (cpy n Z))), (qk, .inl (cI, n, .inl K)), (rk, .inl (cI, 2 * n, .inl (cpy n K))), (qv, .inl (cI, n, .inl V)), (rv, .inl (cI, 2 * n, .inl (cpy n V))), (qb, .inl (cI, n, .inl P)), (rb, .inl (cI, 2 * n, .inl (cpy n P))), (qn, .inl (cI, n, .inl N)), (rn, .inl (cI, 2 * n, .inl (cpy n N)))]) H := hP
  have hD : va_D A ([(a, .inr (2, [.ref rs, .ref rk, .ref rv, .ref rb, .ref rn, .int my, .int fr, .int (nI n), .int fi, .int la])), (qs, .inl (cI, n, .inl Z)), (rs, .inl (cI, 2 * n, .inl (cpy n Z))), (qk, .inl (cI, n, .inl K)), (rk, .inl (cI, 2 * n, .inl (cpy n K))), (qv, .inl (cI, n, .inl V)), (rv, .inl (cI, 2 * n, .inl (cpy n V))), (qb, .inl (cI, n, .inl P)), (rb, .inl (cI, 2 * n, .inl (cpy n P))), (qn, .inl (cI, n, .inl N)), (rn, .inl (cI, 2 * n, .inl (cpy n N)))]) := hD
  refine W.widen (k := 5) (n := 5 * (2 * n)) (by omega) (by omega) ?_
  have hP : va_P D cls ([(a, .inr (2, [.ref rs, .ref rk, .ref rv, .ref rb, .ref rn, .int my, .int fr, .int (nI n), .int fi, .int la])), (rs, .inl (cI, 2 * n, .inl (cpy n Z))), (rk, .inl (cI, 2 * n, .inl (cpy n K))), (rv, .inl (cI, 2 * n, .inl (cpy n V))), (rb, .inl (cI, 2 * n, .inl (cpy n P))), (rn, .inl (cI, 2 * n, .inl (cpy n N)))]) H := hP.sub [0, 2, 4, 6, 8, 10] rfl
  have hD : va_D A ([(a, .inr (2, [.ref rs, .ref rk, .ref rv, .ref rb, .ref rn, .int my, .int fr, .int (nI n), .int fi, .int la])), (rs, .inl (cI, 2 * n, .inl (cpy n Z))), (rk, .inl (cI, 2 * n, .inl (cpy n K))), (rv, .inl (cI, 2 * n, .inl (cpy n V))), (rb, .inl (cI, 2 * n, .inl (cpy n P))), (rn, .inl (cI, 2 * n, .inl (cpy n N)))]) := hD.sub [0, 2, 4, 6, 8, 10] (by decide) rfl
  exact cg_vret (u := (rs, rk, rv, rb, rn)) hQ hx hb hr hlk hK hP hD hS rfl d_pr_grow_67
