-- HashHallModel (2): printed by wip/whole/gen/md2.py
theorem sm_perm {A B : List (Int32 × Int32)} (h : A.Perm B) : sm A = sm B := by
  unfold sm
  exact h.foldl_eq' (fun x _ y _ z => by rw [Int64.add_assoc, Int64.add_comm (en x), ← Int64.add_assoc]) 0
theorem i_m1 (c : Nat) : nI c + Int32.ofInt (-1) = nI c - 1 := by
  rw [Int32.sub_eq_add_neg]
  rfl
set_option maxRecDepth 100000 in
set_option maxHeartbeats 4000000 in
/-- has -/
theorem c_md_has (l : Launch) (D : va_G) (cI cT cP : ClassId) (h r : Nat) (ft : Nat → Option Nat) (km : Nat) (hkm : km < 3) (a : Nat) (hft : ft km = some a) (j : Nat) (L : List (Int32 × Int32)) (u0 : PB) (hL : PL j L u0) (w0 x0 : Int32) : Cg l y_md_has b_md_has 5 (some .boolean) 2 0 0 D (ty3 cI cT cP) [.ref h, .int (nI km), .int w0, .int x0] ([(h, .inr (3, [.ref r])), (r, .inl (cP, 3, .inr (.inr (.inr (.inr ft)))))] ++ (pw cI a j u0)) (fun (v : Option Value) (u : Unit) => v = some (.int (zI (hs w0 x0 L)))) (fun u => [(h, .inr (3, [.ref r])), (r, .inl (cP, 3, .inr (.inr (.inr (.inr ft)))))] ++ (pw cI a j u0)) := by
  obtain ⟨qs, qk, qv, qb, qn, Z, K, V, P, N, fr, mm, fi, la, R⟩ := u0
  obtain ⟨Fr, Sp, hPA, hPN, hPS, hsF, eL⟩ := hL
  have hPA : PA (2 ^ (4 + j)) j mm R Fr := hPA
  have hPN : PN P N fi la R := hPN
  have hPS : PS K Z R Sp := hPS
  have hsF : sg N fr Fr (-1) := hsF
  have eL : L = kv K V R := eL
  have hLl : L.length = R.length := by rw [eL]; exact List.length_map ..
  have hpn := pa_n hPA
  have hn : 2 ^ (4 + j) < 2 ^ 31 := by omega
  have hSl : Sp.length = R.length := hPS.1.length_eq
  have hin2 : ∀ x, x ∈ Sp → x < 2 ^ (4 + j) := fun x hx1 => (pa_in hPA (hPS.1.mem_iff.mp hx1)).2
  have hnd := ps_nd hPS
  refine cg_enter rfl (Nat.le_of_ble_eq_true rfl) ?_
  intro p e s m below meth c args hx hb hr hlk hml hown hin hts A hA hK hP hD hS ls hl Q hQ
  have hl : lv_has ls 5 [(0, .ref h), (1, .int (nI km)), (2, .int w0), (3, .int x0)] := hl
  have hP : va_P D cls ([(h, .inr (3, [.ref r])), (r, .inl (cP, 3, .inr (.inr (.inr (.inr ft)))))] ++ (px cI a qs qk qv qb qn (2 ^ (4 + j)) Z K V P N (nI R.length) fr (nI mm) fi la)) s.heap := hP
  have hD : va_D A ([(h, .inr (3, [.ref r])), (r, .inl (cP, 3, .inr (.inr (.inr (.inr ft)))))] ++ (px cI a qs qk qv qb qn (2 ^ (4 + j)) Z K V P N (nI R.length) fr (nI mm) fi la)) := hD
  refine lv_iload_n hx hb d_md_has_0 rfl (lv_at hl 1 rfl) ?_
  refine cg_S (hn := 1) (As := [.int (nI km)]) (rest := []) (wr := [(h, .inr (3, [.ref r])), (r, .inl (cP, 3, .inr (.inr (.inr (.inr ft)))))] ++ (px cI a qs qk qv qb qn (2 ^ (4 + j)) Z K V P N (nI R.length) fr (nI mm) fi la)) hx hb hml hown hts (c_md_isMap l D cI cT cP km hkm) km_md_20 kt_md_isMap kn_md kc_md_isMap (by decide +kernel) rfl ⟨Nat.le_of_ble_eq_true rfl, Nat.le_of_ble_eq_true rfl⟩ hK hP hD hS hA [] [0, 1, 2, 3, 4, 5, 6, 7] rfl (by decide) rfl (by decide) (by decide) hl.1 rfl (Nat.le_of_ble_eq_true rfl) d_md_has_1 ⟨Nat.zero_le _, Nat.zero_le _⟩ (fun v u H locs hpost hP hD hS => ?_)
  subst hpost
  refine W.eq (g2 := F0 m 4 ls [.int 1]) rfl ?_
  have hP : va_P D cls ([(h, .inr (3, [.ref r])), (r, .inl (cP, 3, .inr (.inr (.inr (.inr ft)))))] ++ (px cI a qs qk qv qb qn (2 ^ (4 + j)) Z K V P N (nI R.length) fr (nI mm) fi la)) H := hP
  have hD : va_D A ([(h, .inr (3, [.ref r])), (r, .inl (cP, 3, .inr (.inr (.inr (.inr ft)))))] ++ (px cI a qs qk qv qb qn (2 ^ (4 + j)) Z K V P N (nI R.length) fr (nI mm) fi la)) := hD
  refine lv_if_eq (tgt := 16) hx hb d_md_has_4 (by decide) (fun z9 => absurd z9 (by decide)) (fun _ => ?_)
  refine lv_iload_n hx hb d_md_has_7 rfl (lv_at hl 2 rfl) ?_
  by_cases h0 : w0 = 0
  · refine lv_if_eq (tgt := 18) hx hb d_md_has_8 (by decide) (fun _ => ?_) (fun z9 => absurd h0 z9)
    refine lv_iload_n hx hb d_md_has_18 rfl (lv_at hl 2 rfl) ?_
    refine lv_if_ne (tgt := 41) hx hb d_md_has_19 (by decide) (fun z9 => absurd h0 z9) (fun _ => ?_)
    refine lv_aload_n hx hb d_md_has_22 rfl (lv_at hl 0 rfl) ?_
    refine va_get (D := D) (ci := 3) (v := .ref r) (C := R_md) (T := F_md) (N := 1) hx hb hts i_md hown hK hP 0 rfl rfl 0 (by decide) (hts _ kf_md_12) (fun _ h9 => h9) rfl d_md_has_23 ?_
    refine lv_iload_n hx hb d_md_has_26 rfl (lv_at hl 1 rfl) ?_
    refine wa_ald (k := km) (b := a) hx hb hK hP 1 2 rfl rfl hkm (by decide) hft d_md_has_27 ?_
    refine lv_iload_n hx hb d_md_has_28 rfl (lv_at hl 3 rfl) ?_
    refine cg_V (hn := 1) (As := [.int x0]) (rest := []) (wr := [(h, .inr (3, [.ref r])), (r, .inl (cP, 3, .inr (.inr (.inr (.inr ft)))))]) (q0 := 0) (ci := 2) hx hb hml hown hts (c_pr_find l D cI cT cP a qs qk qv qb qn (2 ^ (4 + j)) Z K V P N fr (nI mm) fi la j mm R Fr Sp hPA hPS x0) km_md_26 ki_pr_find ks_pr_find kn_pr kc_pr_find (by decide +kernel) rfl ⟨Nat.le_of_ble_eq_true rfl, Nat.le_of_ble_eq_true rfl⟩ hK hP hD hS hA [2, 3, 4, 5, 6, 7] [0, 1] rfl (by decide) rfl (by decide) (by decide) rfl rfl hl.1 rfl (Nat.le_of_ble_eq_true rfl) d_md_has_29 ⟨Nat.zero_le _, Nat.zero_le _⟩ (fun v u H locs hpost hP hD hS => ?_)
    subst hpost
    refine W.eq (g2 := F0 m 32 ls [.int (io (so K x0 R))]) rfl ?_
    have hP : va_P D cls ([(h, .inr (3, [.ref r])), (r, .inl (cP, 3, .inr (.inr (.inr (.inr ft)))))] ++ (px cI a qs qk qv qb qn (2 ^ (4 + j)) Z K V P N (nI R.length) fr (nI mm) fi la)) H := hP
    have hD : va_D A ([(h, .inr (3, [.ref r])), (r, .inl (cP, 3, .inr (.inr (.inr (.inr ft)))))] ++ (px cI a qs qk qv qb qn (2 ^ (4 + j)) Z K V P N (nI R.length) fr (nI mm) fi la)) := hD
    rcases so_cases K x0 R with ⟨e0, hno⟩ | ⟨x, e0, hxR, hke⟩
    · rw [e0]
      have hkL : lk x0 L = none := by rw [eL]; exact kv_out hno
      refine lv_if_lt (tgt := 39) hx hb d_md_has_32 (by decide) (fun _ => ?_) (fun z9 => absurd m1_neg z9)
      refine lv_iconst (v := 0) hx hb d_md_has_39 (by decide) ?_
      exact cg_zret (u := ()) hQ hx hb hr hlk hK hP hD hS rfl (by unfold hs; rw [if_pos h0, hkL]; rfl) d_md_has_40
    · rw [e0]
      have hxn := pa_in hPA hxR
      have hkL : lk x0 L = some (V x) := by rw [eL, ← hke]; exact kv_at hxR hnd
      refine lv_if_lt (tgt := 39) hx hb d_md_has_32 (by decide) (fun z9 => absurd z9 (nI_pos (by omega))) (fun _ => ?_)
      refine lv_iconst (v := 1) hx hb d_md_has_35 (by decide) ?_
      refine lv_goto (tgt := 40) hx hb d_md_has_36 (by decide) ?_
      exact cg_zret (u := ()) hQ hx hb hr hlk hK hP hD hS rfl (by unfold hs; rw [if_pos h0, hkL]; rfl) d_md_has_40
  · refine lv_if_eq (tgt := 18) hx hb d_md_has_8 (by decide) (fun z9 => absurd z9 h0) (fun _ => ?_)
    refine lv_iload_n hx hb d_md_has_11 rfl (lv_at hl 2 rfl) ?_
    refine lv_iconst (v := 1) hx hb d_md_has_12 (by decide) ?_
    by_cases h1 : w0 = 1
    · refine lv_icmp_eq (tgt := 18) hx hb d_md_has_13 (by decide) (fun _ => ?_) (fun z9 => absurd h1 z9)
      refine lv_iload_n hx hb d_md_has_18 rfl (lv_at hl 2 rfl) ?_
      refine lv_if_ne (tgt := 41) hx hb d_md_has_19 (by decide) (fun _ => ?_) (fun z9 => absurd z9 h0)
      refine lv_iconst (v := 0) hx hb d_md_has_41 (by decide) ?_
      refine lv_istore (lv' := [(4, .int 0), (0, .ref h), (1, .int (nI km)), (2, .int w0), (3, .int x0)]) hx hb d_md_has_42 hl (by decide) rfl (fun ls hl => ?_)
      have loop : ∀ (l2 l1 : List Nat), Sp = l1 ++ l2 → (∀ y, y ∈ l1 → ¬ V y = x0) → ∀ ls : Array Slot, lv_has ls 5 [(0, .ref h), (1, .int (nI km)), (2, .int w0), (3, .int x0), (4, .int (nI l1.length))] → W p l e (rmL 2 0 0) s m args below meth c H locs 0 0 Q (F0 m 44 ls []) := by
        intro l2
        induction l2 with
        | nil =>
          intro l1 eS hno ls hl
          have hl1 : l1 = Sp := by rw [eS, List.append_nil]
          have hf : hvl x0 L = false := by
            rw [eL]
            unfold hvl kv
            rw [List.any_eq_false]
            intro e9 hq
            obtain ⟨z9, hy, rfl⟩ := List.mem_map.mp hq
            simpa using hno z9 (by rw [hl1]; exact hPS.1.mem_iff.mpr hy)
          refine lv_iload hx hb d_md_has_44 (lv_at hl 4 rfl) ?_
          refine lv_aload_n hx hb d_md_has_46 rfl (lv_at hl 0 rfl) ?_
          refine va_get (D := D) (ci := 3) (v := .ref r) (C := R_md) (T := F_md) (N := 1) hx hb hts i_md hown hK hP 0 rfl rfl 0 (by decide) (hts _ kf_md_12) (fun _ h9 => h9) rfl d_md_has_47 ?_
          refine lv_iload_n hx hb d_md_has_50 rfl (lv_at hl 1 rfl) ?_
          refine wa_ald (k := km) (b := a) hx hb hK hP 1 2 rfl rfl hkm (by decide) hft d_md_has_51 ?_
          refine va_get (D := D) (ci := 2) (v := .int (nI R.length)) (C := R_pr) (T := F_pr) (N := 10) hx hb hts i_pr hown hK hP 2 rfl rfl 5 (by decide) (hts _ kf_md_50) (fun _ h9 => h9) rfl d_md_has_52 ?_
          refine lv_icmp_ge (tgt := 92) hx hb d_md_has_55 (by decide) (fun _ => ?_) (fun z9 => absurd (by rw [hl1, hSl]; exact nI_le (Nat.le_refl _) (by omega)) z9)
          refine lv_iconst (v := 0) hx hb d_md_has_92 (by decide) ?_
          exact cg_zret (u := ()) hQ hx hb hr hlk hK hP hD hS rfl (by unfold hs; rw [if_neg h0, if_pos h1, hf]; rfl) d_md_has_93
        | cons x l2 ih =>
          intro l1 eS hno ls hl
          have hxS : x ∈ Sp := by rw [eS]; exact List.mem_append_right _ (List.mem_cons_self ..)
          have hxR := hPS.1.mem_iff.mp hxS
          have hxn := pa_in hPA hxR
          have hlt : l1.length < R.length := by rw [← hSl, eS, List.length_append, List.length_cons]; omega
          have sZ : Z l1.length = nI x := by
            rw [hPS.2.2 _ (by omega), eS, getD_hd]
            rfl
          refine lv_iload hx hb d_md_has_44 (lv_at hl 4 rfl) ?_
          refine lv_aload_n hx hb d_md_has_46 rfl (lv_at hl 0 rfl) ?_
          refine va_get (D := D) (ci := 3) (v := .ref r) (C := R_md) (T := F_md) (N := 1) hx hb hts i_md hown hK hP 0 rfl rfl 0 (by decide) (hts _ kf_md_12) (fun _ h9 => h9) rfl d_md_has_47 ?_
          refine lv_iload_n hx hb d_md_has_50 rfl (lv_at hl 1 rfl) ?_
          refine wa_ald (k := km) (b := a) hx hb hK hP 1 2 rfl rfl hkm (by decide) hft d_md_has_51 ?_
          refine va_get (D := D) (ci := 2) (v := .int (nI R.length)) (C := R_pr) (T := F_pr) (N := 10) hx hb hts i_pr hown hK hP 2 rfl rfl 5 (by decide) (hts _ kf_md_50) (fun _ h9 => h9) rfl d_md_has_52 ?_
          refine lv_icmp_ge (tgt := 92) hx hb d_md_has_55 (by decide) (fun z9 => absurd z9 (nI_ge hlt (by omega))) (fun _ => ?_)
          refine lv_aload_n hx hb d_md_has_58 rfl (lv_at hl 0 rfl) ?_
          refine va_get (D := D) (ci := 3) (v := .ref r) (C := R_md) (T := F_md) (N := 1) hx hb hts i_md hown hK hP 0 rfl rfl 0 (by decide) (hts _ kf_md_12) (fun _ h9 => h9) rfl d_md_has_59 ?_
          refine lv_iload_n hx hb d_md_has_62 rfl (lv_at hl 1 rfl) ?_
          refine wa_ald (k := km) (b := a) hx hb hK hP 1 2 rfl rfl hkm (by decide) hft d_md_has_63 ?_
          refine va_get (D := D) (ci := 2) (v := .ref qv) (C := R_pr) (T := F_pr) (N := 10) hx hb hts i_pr hown hK hP 2 rfl rfl 2 (by decide) (hts _ kf_md_36) (fun _ h9 => h9) rfl d_md_has_64 ?_
          refine lv_aload_n hx hb d_md_has_67 rfl (lv_at hl 0 rfl) ?_
          refine va_get (D := D) (ci := 3) (v := .ref r) (C := R_md) (T := F_md) (N := 1) hx hb hts i_md hown hK hP 0 rfl rfl 0 (by decide) (hts _ kf_md_12) (fun _ h9 => h9) rfl d_md_has_68 ?_
          refine lv_iload_n hx hb d_md_has_71 rfl (lv_at hl 1 rfl) ?_
          refine wa_ald (k := km) (b := a) hx hb hK hP 1 2 rfl rfl hkm (by decide) hft d_md_has_72 ?_
          refine va_get (D := D) (ci := 2) (v := .ref qs) (C := R_pr) (T := F_pr) (N := 10) hx hb hts i_pr hown hK hP 2 rfl rfl 0 (by decide) (hts _ kf_md_54) (fun _ h9 => h9) rfl d_md_has_73 ?_
          refine lv_iload hx hb d_md_has_76 (lv_at hl 4 rfl) ?_
          refine wa_ld (k := l1.length) hx hb hK hP 3 0 rfl rfl (by omega) hn d_md_has_78 ?_
          refine tp_i (y := nI x) sZ ?_
          refine wa_ld (k := x) hx hb hK hP 5 0 rfl rfl hxn.2 hn d_md_has_79 ?_
          refine lv_iload_n hx hb d_md_has_80 rfl (lv_at hl 3 rfl) ?_
          refine lv_icmp_ne (tgt := 86) hx hb d_md_has_81 (by decide) (fun c1 => ?_) (fun c1 => ?_)
          · refine lv_iinc (v := nI (l1 ++ [x]).length) (lv' := [(4, .int (nI (l1 ++ [x]).length)), (0, .ref h), (1, .int (nI km)), (2, .int w0), (3, .int x0)]) hx hb d_md_has_86 hl (k := 4) rfl (inc_l l1 x) (by decide) rfl (fun ls hl => ?_)
            refine lv_goto (tgt := 44) hx hb d_md_has_89 (by decide) ?_
            exact ih (l1 ++ [x]) (by rw [eS]; simp) (fun y hy => by
                rcases List.mem_append.mp hy with h3 | h3
                · exact hno y h3
                · rw [List.mem_singleton.mp h3]; exact c1) ls (lv_sub hl [1, 2, 3, 4, 0] rfl)
          · refine lv_iconst (v := 1) hx hb d_md_has_84 (by decide) ?_
            exact cg_zret (u := ()) hQ hx hb hr hlk hK hP hD hS rfl (by unfold hs; rw [if_neg h0, if_pos h1, show hvl x0 L = true from by rw [eL]; unfold hvl kv; exact List.any_eq_true.mpr ⟨_, List.mem_map.mpr ⟨x, hxR, rfl⟩, decide_eq_true c1⟩]; rfl) d_md_has_85
      exact loop Sp [] rfl (fun y hy => absurd hy List.not_mem_nil) ls (lv_sub hl [1, 2, 3, 4, 0] rfl)
    · refine lv_icmp_eq (tgt := 18) hx hb d_md_has_13 (by decide) (fun z9 => absurd z9 h1) (fun _ => ?_)
      refine lv_iconst (v := 0) hx hb d_md_has_16 (by decide) ?_
      exact cg_zret (u := ()) hQ hx hb hr hlk hK hP hD hS rfl (by unfold hs; rw [if_neg h0, if_neg h1]; rfl) d_md_has_17
set_option maxRecDepth 100000 in
set_option maxHeartbeats 4000000 in
theorem c_md_has_x (l : Launch) (D : va_G) (cI cT cP : ClassId) (h r : Nat) (q : Int32) (hq : bad q) (w0 x0 : Int32) : Cg l y_md_has b_md_has 5 (some .boolean) 2 0 0 D (ty3 cI cT cP) [.ref h, .int q, .int w0, .int x0] ([(h, .inr (3, [.ref r]))]) (fun (v : Option Value) (u : Unit) => v = some (.int 0)) (fun u => [(h, .inr (3, [.ref r]))]) := by
  refine cg_enter rfl (Nat.le_of_ble_eq_true rfl) ?_
  intro p e s m below meth c args hx hb hr hlk hml hown hin hts A hA hK hP hD hS ls hl Q hQ
  have hl : lv_has ls 5 [(0, .ref h), (1, .int q), (2, .int w0), (3, .int x0)] := hl
  have hP : va_P D cls ([(h, .inr (3, [.ref r]))]) s.heap := hP
  have hD : va_D A ([(h, .inr (3, [.ref r]))]) := hD
  refine lv_iload_n hx hb d_md_has_0 rfl (lv_at hl 1 rfl) ?_
  refine cg_S (hn := 1) (As := [.int q]) (rest := []) (wr := [(h, .inr (3, [.ref r]))]) hx hb hml hown hts (c_md_isMap_x l D cI cT cP q hq) km_md_20 kt_md_isMap kn_md kc_md_isMap (by decide +kernel) rfl ⟨Nat.le_of_ble_eq_true rfl, Nat.le_of_ble_eq_true rfl⟩ hK hP hD hS hA [] [0] rfl (by decide) rfl (by decide) (by decide) hl.1 rfl (Nat.le_of_ble_eq_true rfl) d_md_has_1 ⟨Nat.zero_le _, Nat.zero_le _⟩ (fun v u H locs hpost hP hD hS => ?_)
  subst hpost
  refine W.eq (g2 := F0 m 4 ls [.int 0]) rfl ?_
  have hP : va_P D cls ([(h, .inr (3, [.ref r]))]) H := hP
  have hD : va_D A ([(h, .inr (3, [.ref r]))]) := hD
  refine lv_if_eq (tgt := 16) hx hb d_md_has_4 (by decide) (fun _ => ?_) (fun z9 => absurd rfl z9)
  refine lv_iconst (v := 0) hx hb d_md_has_16 (by decide) ?_
  exact cg_zret (u := ()) hQ hx hb hr hlk hK hP hD hS rfl rfl d_md_has_17
set_option maxRecDepth 100000 in
set_option maxHeartbeats 4000000 in
/-- sum -/
theorem c_md_sum (l : Launch) (D : va_G) (cI cT cP : ClassId) (h r : Nat) (ft : Nat → Option Nat) (km : Nat) (hkm : km < 3) (a : Nat) (hft : ft km = some a) (j : Nat) (L : List (Int32 × Int32)) (u0 : PB) (hL : PL j L u0) : Cg l y_md_sum b_md_sum 5 (some .long) 1 0 0 D (ty3 cI cT cP) [.ref h, .int (nI km)] ([(h, .inr (3, [.ref r])), (r, .inl (cP, 3, .inr (.inr (.inr (.inr ft)))))] ++ (pw cI a j u0)) (fun (v : Option Value) (u : Unit) => v = some (.long (sm L))) (fun u => [(h, .inr (3, [.ref r])), (r, .inl (cP, 3, .inr (.inr (.inr (.inr ft)))))] ++ (pw cI a j u0)) := by
  obtain ⟨qs, qk, qv, qb, qn, Z, K, V, P, N, fr, mm, fi, la, R⟩ := u0
  obtain ⟨Fr, Sp, hPA, hPN, hPS, hsF, eL⟩ := hL
  have hPA : PA (2 ^ (4 + j)) j mm R Fr := hPA
  have hPN : PN P N fi la R := hPN
  have hPS : PS K Z R Sp := hPS
  have hsF : sg N fr Fr (-1) := hsF
  have eL : L = kv K V R := eL
  have hLl : L.length = R.length := by rw [eL]; exact List.length_map ..
  have hpn := pa_n hPA
  have hn : 2 ^ (4 + j) < 2 ^ 31 := by omega
  have hSl : Sp.length = R.length := hPS.1.length_eq
  have hin2 : ∀ x, x ∈ Sp → x < 2 ^ (4 + j) := fun x hx1 => (pa_in hPA (hPS.1.mem_iff.mp hx1)).2
  have hnd := ps_nd hPS
  refine cg_enter rfl (Nat.le_of_ble_eq_true rfl) ?_
  intro p e s m below meth c args hx hb hr hlk hml hown hin hts A hA hK hP hD hS ls hl Q hQ
  have hl : lv_has ls 5 [(0, .ref h), (1, .int (nI km))] := hl
  have hP : va_P D cls ([(h, .inr (3, [.ref r])), (r, .inl (cP, 3, .inr (.inr (.inr (.inr ft)))))] ++ (px cI a qs qk qv qb qn (2 ^ (4 + j)) Z K V P N (nI R.length) fr (nI mm) fi la)) s.heap := hP
  have hD : va_D A ([(h, .inr (3, [.ref r])), (r, .inl (cP, 3, .inr (.inr (.inr (.inr ft)))))] ++ (px cI a qs qk qv qb qn (2 ^ (4 + j)) Z K V P N (nI R.length) fr (nI mm) fi la)) := hD
  refine lv_iload_n hx hb d_md_sum_0 rfl (lv_at hl 1 rfl) ?_
  refine cg_S (hn := 1) (As := [.int (nI km)]) (rest := []) (wr := [(h, .inr (3, [.ref r])), (r, .inl (cP, 3, .inr (.inr (.inr (.inr ft)))))] ++ (px cI a qs qk qv qb qn (2 ^ (4 + j)) Z K V P N (nI R.length) fr (nI mm) fi la)) hx hb hml hown hts (c_md_isMap l D cI cT cP km hkm) km_md_20 kt_md_isMap kn_md kc_md_isMap (by decide +kernel) rfl ⟨Nat.le_of_ble_eq_true rfl, Nat.le_of_ble_eq_true rfl⟩ hK hP hD hS hA [] [0, 1, 2, 3, 4, 5, 6, 7] rfl (by decide) rfl (by decide) (by decide) hl.1 rfl (Nat.le_of_ble_eq_true rfl) d_md_sum_1 ⟨Nat.zero_le _, Nat.zero_le _⟩ (fun v u H locs hpost hP hD hS => ?_)
  subst hpost
  refine W.eq (g2 := F0 m 4 ls [.int 1]) rfl ?_
  have hP : va_P D cls ([(h, .inr (3, [.ref r])), (r, .inl (cP, 3, .inr (.inr (.inr (.inr ft)))))] ++ (px cI a qs qk qv qb qn (2 ^ (4 + j)) Z K V P N (nI R.length) fr (nI mm) fi la)) H := hP
  have hD : va_D A ([(h, .inr (3, [.ref r])), (r, .inl (cP, 3, .inr (.inr (.inr (.inr ft)))))] ++ (px cI a qs qk qv qb qn (2 ^ (4 + j)) Z K V P N (nI R.length) fr (nI mm) fi la)) := hD
  refine lv_if_ne (tgt := 11) hx hb d_md_sum_4 (by decide) (fun _ => ?_) (fun z9 => absurd z9 (by decide))
  refine lv_lconst (v := 0) hx hb d_md_sum_11 (by decide) ?_
  refine lv_lstore_n (lv' := [(2, .long 0), (0, .ref h), (1, .int (nI km))]) hx hb d_md_sum_12 rfl hl (by decide) rfl (fun ls hl => ?_)
  refine lv_iconst (v := 0) hx hb d_md_sum_13 (by decide) ?_
  refine lv_istore (lv' := [(4, .int 0), (2, .long 0), (0, .ref h), (1, .int (nI km))]) hx hb d_md_sum_14 hl (by decide) rfl (fun ls hl => ?_)
  have loop : ∀ (l2 l1 : List Nat), Sp = l1 ++ l2 → ∀ ls : Array Slot, lv_has ls 5 [(0, .ref h), (1, .int (nI km)), (2, .long (sm (kv K V l1))), (4, .int (nI l1.length))] → W p l e (rmL 1 0 0) s m args below meth c H locs 0 0 Q (F0 m 16 ls []) := by
    intro l2
    induction l2 with
    | nil =>
      intro l1 eS ls hl
      have hl1 : l1 = Sp := by rw [eS, List.append_nil]
      refine lv_iload hx hb d_md_sum_16 (lv_at hl 3 rfl) ?_
      refine lv_aload_n hx hb d_md_sum_18 rfl (lv_at hl 0 rfl) ?_
      refine va_get (D := D) (ci := 3) (v := .ref r) (C := R_md) (T := F_md) (N := 1) hx hb hts i_md hown hK hP 0 rfl rfl 0 (by decide) (hts _ kf_md_12) (fun _ h9 => h9) rfl d_md_sum_19 ?_
      refine lv_iload_n hx hb d_md_sum_22 rfl (lv_at hl 1 rfl) ?_
      refine wa_ald (k := km) (b := a) hx hb hK hP 1 2 rfl rfl hkm (by decide) hft d_md_sum_23 ?_
      refine va_get (D := D) (ci := 2) (v := .int (nI R.length)) (C := R_pr) (T := F_pr) (N := 10) hx hb hts i_pr hown hK hP 2 rfl rfl 5 (by decide) (hts _ kf_md_50) (fun _ h9 => h9) rfl d_md_sum_24 ?_
      refine lv_icmp_ge (tgt := 90) hx hb d_md_sum_27 (by decide) (fun _ => ?_) (fun z9 => absurd (by rw [hl1, hSl]; exact nI_le (Nat.le_refl _) (by omega)) z9)
      refine lv_lload_n hx hb d_md_sum_90 rfl (lv_at hl 2 rfl) ?_
      exact cg_lret (u := ()) hQ hx hb hr hlk hK hP hD hS (by rw [hl1, eL, sm_perm (hPS.1.map (fun x => (K x, V x)))]) d_md_sum_91
    | cons x l2 ih =>
      intro l1 eS ls hl
      have hxS : x ∈ Sp := by rw [eS]; exact List.mem_append_right _ (List.mem_cons_self ..)
      have hxR := hPS.1.mem_iff.mp hxS
      have hxn := pa_in hPA hxR
      have hlt : l1.length < R.length := by rw [← hSl, eS, List.length_append, List.length_cons]; omega
      have sZ : Z l1.length = nI x := by
        rw [hPS.2.2 _ (by omega), eS, getD_hd]
        rfl
      refine lv_iload hx hb d_md_sum_16 (lv_at hl 3 rfl) ?_
      refine lv_aload_n hx hb d_md_sum_18 rfl (lv_at hl 0 rfl) ?_
      refine va_get (D := D) (ci := 3) (v := .ref r) (C := R_md) (T := F_md) (N := 1) hx hb hts i_md hown hK hP 0 rfl rfl 0 (by decide) (hts _ kf_md_12) (fun _ h9 => h9) rfl d_md_sum_19 ?_
      refine lv_iload_n hx hb d_md_sum_22 rfl (lv_at hl 1 rfl) ?_
      refine wa_ald (k := km) (b := a) hx hb hK hP 1 2 rfl rfl hkm (by decide) hft d_md_sum_23 ?_
      refine va_get (D := D) (ci := 2) (v := .int (nI R.length)) (C := R_pr) (T := F_pr) (N := 10) hx hb hts i_pr hown hK hP 2 rfl rfl 5 (by decide) (hts _ kf_md_50) (fun _ h9 => h9) rfl d_md_sum_24 ?_
      refine lv_icmp_ge (tgt := 90) hx hb d_md_sum_27 (by decide) (fun z9 => absurd z9 (nI_ge hlt (by omega))) (fun _ => ?_)
      refine lv_lload_n hx hb d_md_sum_30 rfl (lv_at hl 2 rfl) ?_
      refine lv_ldc2 hx hb hown (hts _ kk_md_73) d_md_sum_31 ?_
      refine lv_aload_n hx hb d_md_sum_34 rfl (lv_at hl 0 rfl) ?_
      refine va_get (D := D) (ci := 3) (v := .ref r) (C := R_md) (T := F_md) (N := 1) hx hb hts i_md hown hK hP 0 rfl rfl 0 (by decide) (hts _ kf_md_12) (fun _ h9 => h9) rfl d_md_sum_35 ?_
      refine lv_iload_n hx hb d_md_sum_38 rfl (lv_at hl 1 rfl) ?_
      refine wa_ald (k := km) (b := a) hx hb hK hP 1 2 rfl rfl hkm (by decide) hft d_md_sum_39 ?_
      refine va_get (D := D) (ci := 2) (v := .ref qk) (C := R_pr) (T := F_pr) (N := 10) hx hb hts i_pr hown hK hP 2 rfl rfl 1 (by decide) (hts _ kf_md_60) (fun _ h9 => h9) rfl d_md_sum_40 ?_
      refine lv_aload_n hx hb d_md_sum_43 rfl (lv_at hl 0 rfl) ?_
      refine va_get (D := D) (ci := 3) (v := .ref r) (C := R_md) (T := F_md) (N := 1) hx hb hts i_md hown hK hP 0 rfl rfl 0 (by decide) (hts _ kf_md_12) (fun _ h9 => h9) rfl d_md_sum_44 ?_
      refine lv_iload_n hx hb d_md_sum_47 rfl (lv_at hl 1 rfl) ?_
      refine wa_ald (k := km) (b := a) hx hb hK hP 1 2 rfl rfl hkm (by decide) hft d_md_sum_48 ?_
      refine va_get (D := D) (ci := 2) (v := .ref qs) (C := R_pr) (T := F_pr) (N := 10) hx hb hts i_pr hown hK hP 2 rfl rfl 0 (by decide) (hts _ kf_md_54) (fun _ h9 => h9) rfl d_md_sum_49 ?_
      refine lv_iload hx hb d_md_sum_52 (lv_at hl 3 rfl) ?_
      refine wa_ld (k := l1.length) hx hb hK hP 3 0 rfl rfl (by omega) hn d_md_sum_54 ?_
      refine tp_i (y := nI x) sZ ?_
      refine wa_ld (k := x) hx hb hK hP 4 0 rfl rfl hxn.2 hn d_md_sum_55 ?_
      refine lv_i2l (v := (K x).toInt64) hx hb d_md_sum_56 rfl ?_
      refine lv_lmul hx hb d_md_sum_57 ?_
      refine lv_aload_n hx hb d_md_sum_58 rfl (lv_at hl 0 rfl) ?_
      refine va_get (D := D) (ci := 3) (v := .ref r) (C := R_md) (T := F_md) (N := 1) hx hb hts i_md hown hK hP 0 rfl rfl 0 (by decide) (hts _ kf_md_12) (fun _ h9 => h9) rfl d_md_sum_59 ?_
      refine lv_iload_n hx hb d_md_sum_62 rfl (lv_at hl 1 rfl) ?_
      refine wa_ald (k := km) (b := a) hx hb hK hP 1 2 rfl rfl hkm (by decide) hft d_md_sum_63 ?_
      refine va_get (D := D) (ci := 2) (v := .ref qv) (C := R_pr) (T := F_pr) (N := 10) hx hb hts i_pr hown hK hP 2 rfl rfl 2 (by decide) (hts _ kf_md_36) (fun _ h9 => h9) rfl d_md_sum_64 ?_
      refine lv_aload_n hx hb d_md_sum_67 rfl (lv_at hl 0 rfl) ?_
      refine va_get (D := D) (ci := 3) (v := .ref r) (C := R_md) (T := F_md) (N := 1) hx hb hts i_md hown hK hP 0 rfl rfl 0 (by decide) (hts _ kf_md_12) (fun _ h9 => h9) rfl d_md_sum_68 ?_
      refine lv_iload_n hx hb d_md_sum_71 rfl (lv_at hl 1 rfl) ?_
      refine wa_ald (k := km) (b := a) hx hb hK hP 1 2 rfl rfl hkm (by decide) hft d_md_sum_72 ?_
      refine va_get (D := D) (ci := 2) (v := .ref qs) (C := R_pr) (T := F_pr) (N := 10) hx hb hts i_pr hown hK hP 2 rfl rfl 0 (by decide) (hts _ kf_md_54) (fun _ h9 => h9) rfl d_md_sum_73 ?_
      refine lv_iload hx hb d_md_sum_76 (lv_at hl 3 rfl) ?_
      refine wa_ld (k := l1.length) hx hb hK hP 3 0 rfl rfl (by omega) hn d_md_sum_78 ?_
      refine tp_i (y := nI x) sZ ?_
      refine wa_ld (k := x) hx hb hK hP 5 0 rfl rfl hxn.2 hn d_md_sum_79 ?_
      refine lv_i2l (v := (V x).toInt64) hx hb d_md_sum_80 rfl ?_
      refine lv_ladd hx hb d_md_sum_81 ?_
      refine lv_ladd hx hb d_md_sum_82 ?_
      refine tp_l (y := sm (kv K V (l1 ++ [x]))) sm_snoc.symm ?_
      refine lv_lstore_n (lv' := [(2, .long (sm (kv K V (l1 ++ [x])))), (0, .ref h), (1, .int (nI km)), (4, .int (nI l1.length))]) hx hb d_md_sum_83 rfl hl (by decide) rfl (fun ls hl => ?_)
      refine lv_iinc (v := nI (l1 ++ [x]).length) (lv' := [(4, .int (nI (l1 ++ [x]).length)), (2, .long (sm (kv K V (l1 ++ [x])))), (0, .ref h), (1, .int (nI km))]) hx hb d_md_sum_84 hl (k := 3) rfl (inc_l l1 x) (by decide) rfl (fun ls hl => ?_)
      refine lv_goto (tgt := 16) hx hb d_md_sum_87 (by decide) ?_
      exact ih (l1 ++ [x]) (by rw [eS]; simp) ls (lv_sub hl [2, 3, 1, 0] rfl)
  exact loop Sp [] rfl ls (lv_sub hl [2, 3, 1, 0] rfl)
set_option maxRecDepth 100000 in
set_option maxHeartbeats 4000000 in
theorem c_md_sum_x (l : Launch) (D : va_G) (cI cT cP : ClassId) (h r : Nat) (q : Int32) (hq : bad q)  : Cg l y_md_sum b_md_sum 5 (some .long) 1 0 0 D (ty3 cI cT cP) [.ref h, .int q] ([(h, .inr (3, [.ref r]))]) (fun (v : Option Value) (u : Unit) => v = some (.long 1099511627777)) (fun u => [(h, .inr (3, [.ref r]))]) := by
  refine cg_enter rfl (Nat.le_of_ble_eq_true rfl) ?_
  intro p e s m below meth c args hx hb hr hlk hml hown hin hts A hA hK hP hD hS ls hl Q hQ
  have hl : lv_has ls 5 [(0, .ref h), (1, .int q)] := hl
  have hP : va_P D cls ([(h, .inr (3, [.ref r]))]) s.heap := hP
  have hD : va_D A ([(h, .inr (3, [.ref r]))]) := hD
  refine lv_iload_n hx hb d_md_sum_0 rfl (lv_at hl 1 rfl) ?_
  refine cg_S (hn := 1) (As := [.int q]) (rest := []) (wr := [(h, .inr (3, [.ref r]))]) hx hb hml hown hts (c_md_isMap_x l D cI cT cP q hq) km_md_20 kt_md_isMap kn_md kc_md_isMap (by decide +kernel) rfl ⟨Nat.le_of_ble_eq_true rfl, Nat.le_of_ble_eq_true rfl⟩ hK hP hD hS hA [] [0] rfl (by decide) rfl (by decide) (by decide) hl.1 rfl (Nat.le_of_ble_eq_true rfl) d_md_sum_1 ⟨Nat.zero_le _, Nat.zero_le _⟩ (fun v u H locs hpost hP hD hS => ?_)
  subst hpost
  refine W.eq (g2 := F0 m 4 ls [.int 0]) rfl ?_
  have hP : va_P D cls ([(h, .inr (3, [.ref r]))]) H := hP
  have hD : va_D A ([(h, .inr (3, [.ref r]))]) := hD
  refine lv_if_ne (tgt := 11) hx hb d_md_sum_4 (by decide) (fun z9 => absurd rfl z9) (fun _ => ?_)
  refine lv_ldc2 hx hb hown (hts _ kk_md_24) d_md_sum_7 ?_
  exact cg_lret (u := ()) hQ hx hb hr hlk hK hP hD hS rfl d_md_sum_10
set_option maxRecDepth 100000 in
set_option maxHeartbeats 4000000 in
/-- raise -/
theorem c_md_raise (l : Launch) (D : va_G) (cI cT cP : ClassId) (h r : Nat) (ft : Nat → Option Nat) (km : Nat) (hkm : km < 3) (a : Nat) (hft : ft km = some a) (j : Nat) (L : List (Int32 × Int32)) (u0 : PB) (hL : PL j L u0) (b0 : Int32) : Cg l y_md_raise b_md_raise 4 (some .int) 1 0 0 D (ty3 cI cT cP) [.ref h, .int (nI km), .int b0] ([(h, .inr (3, [.ref r])), (r, .inl (cP, 3, .inr (.inr (.inr (.inr ft)))))] ++ (pw cI a j u0)) (fun (v : Option Value) (u : PB) => v = some (.int (nI L.length)) ∧ PL j (rs b0 L) u) (fun u => [(h, .inr (3, [.ref r])), (r, .inl (cP, 3, .inr (.inr (.inr (.inr ft)))))] ++ (pw cI a j u)) := by
  obtain ⟨qs, qk, qv, qb, qn, Z, K, V, P, N, fr, mm, fi, la, R⟩ := u0
  obtain ⟨Fr, Sp, hPA, hPN, hPS, hsF, eL⟩ := hL
  have hPA : PA (2 ^ (4 + j)) j mm R Fr := hPA
  have hPN : PN P N fi la R := hPN
  have hPS : PS K Z R Sp := hPS
  have hsF : sg N fr Fr (-1) := hsF
  have eL : L = kv K V R := eL
  have hLl : L.length = R.length := by rw [eL]; exact List.length_map ..
  have hpn := pa_n hPA
  have hn : 2 ^ (4 + j) < 2 ^ 31 := by omega
  have hSl : Sp.length = R.length := hPS.1.length_eq
  have hin2 : ∀ x, x ∈ Sp → x < 2 ^ (4 + j) := fun x hx1 => (pa_in hPA (hPS.1.mem_iff.mp hx1)).2
  have hnd := ps_nd hPS
  refine cg_enter rfl (Nat.le_of_ble_eq_true rfl) ?_
  intro p e s m below meth c args hx hb hr hlk hml hown hin hts A hA hK hP hD hS ls hl Q hQ
  have hl : lv_has ls 4 [(0, .ref h), (1, .int (nI km)), (2, .int b0)] := hl
  have hP : va_P D cls ([(h, .inr (3, [.ref r])), (r, .inl (cP, 3, .inr (.inr (.inr (.inr ft)))))] ++ (px cI a qs qk qv qb qn (2 ^ (4 + j)) Z K V P N (nI R.length) fr (nI mm) fi la)) s.heap := hP
  have hD : va_D A ([(h, .inr (3, [.ref r])), (r, .inl (cP, 3, .inr (.inr (.inr (.inr ft)))))] ++ (px cI a qs qk qv qb qn (2 ^ (4 + j)) Z K V P N (nI R.length) fr (nI mm) fi la)) := hD
  refine lv_iload_n hx hb d_md_raise_0 rfl (lv_at hl 1 rfl) ?_
  refine cg_S (hn := 1) (As := [.int (nI km)]) (rest := []) (wr := [(h, .inr (3, [.ref r])), (r, .inl (cP, 3, .inr (.inr (.inr (.inr ft)))))] ++ (px cI a qs qk qv qb qn (2 ^ (4 + j)) Z K V P N (nI R.length) fr (nI mm) fi la)) hx hb hml hown hts (c_md_isMap l D cI cT cP km hkm) km_md_20 kt_md_isMap kn_md kc_md_isMap (by decide +kernel) rfl ⟨Nat.le_of_ble_eq_true rfl, Nat.le_of_ble_eq_true rfl⟩ hK hP hD hS hA [] [0, 1, 2, 3, 4, 5, 6, 7] rfl (by decide) rfl (by decide) (by decide) hl.1 rfl (Nat.le_of_ble_eq_true rfl) d_md_raise_1 ⟨Nat.zero_le _, Nat.zero_le _⟩ (fun v u H locs hpost hP hD hS => ?_)
  subst hpost
  refine W.eq (g2 := F0 m 4 ls [.int 1]) rfl ?_
  have hP : va_P D cls ([(h, .inr (3, [.ref r])), (r, .inl (cP, 3, .inr (.inr (.inr (.inr ft)))))] ++ (px cI a qs qk qv qb qn (2 ^ (4 + j)) Z K V P N (nI R.length) fr (nI mm) fi la)) H := hP
  have hD : va_D A ([(h, .inr (3, [.ref r])), (r, .inl (cP, 3, .inr (.inr (.inr (.inr ft)))))] ++ (px cI a qs qk qv qb qn (2 ^ (4 + j)) Z K V P N (nI R.length) fr (nI mm) fi la)) := hD
  refine lv_if_ne (tgt := 9) hx hb d_md_raise_4 (by decide) (fun _ => ?_) (fun z9 => absurd z9 (by decide))
  refine lv_iconst (v := 0) hx hb d_md_raise_9 (by decide) ?_
  refine lv_istore_n (lv' := [(3, .int 0), (0, .ref h), (1, .int (nI km)), (2, .int b0)]) hx hb d_md_raise_10 rfl hl (by decide) rfl (fun ls hl => ?_)
  have loop : ∀ (l2 l1 : List Nat) (V2 : Nat → Int32), Sp = l1 ++ l2 → (∀ y, y ∈ l1 → V2 y = V y + b0) → (∀ y, y ∈ l2 → V2 y = V y) → ∀ (H : Heap) (locs : List Loc), va_P D cls ([(h, .inr (3, [.ref r])), (r, .inl (cP, 3, .inr (.inr (.inr (.inr ft)))))] ++ (px cI a qs qk qv qb qn (2 ^ (4 + j)) Z K V2 P N (nI R.length) fr (nI mm) fi la)) H → va_D A ([(h, .inr (3, [.ref r])), (r, .inl (cP, 3, .inr (.inr (.inr (.inr ft)))))] ++ (px cI a qs qk qv qb qn (2 ^ (4 + j)) Z K V2 P N (nI R.length) fr (nI mm) fi la)) → va_S A s.heap H locs → ∀ ls : Array Slot, lv_has ls 4 [(0, .ref h), (1, .int (nI km)), (2, .int b0), (3, .int (nI l1.length))] → W p l e (rmL 1 0 0) s m args below meth c H locs 0 0 Q (F0 m 11 ls []) := by
    intro l2
    induction l2 with
    | nil =>
      intro l1 V2 eS h1 h2 H locs hP hD hS ls hl
      have hl1 : l1 = Sp := by rw [eS, List.append_nil]
      refine lv_iload_n hx hb d_md_raise_11 rfl (lv_at hl 3 rfl) ?_
      refine lv_aload_n hx hb d_md_raise_12 rfl (lv_at hl 0 rfl) ?_
      refine va_get (D := D) (ci := 3) (v := .ref r) (C := R_md) (T := F_md) (N := 1) hx hb hts i_md hown hK hP 0 rfl rfl 0 (by decide) (hts _ kf_md_12) (fun _ h9 => h9) rfl d_md_raise_13 ?_
      refine lv_iload_n hx hb d_md_raise_16 rfl (lv_at hl 1 rfl) ?_
      refine wa_ald (k := km) (b := a) hx hb hK hP 1 2 rfl rfl hkm (by decide) hft d_md_raise_17 ?_
      refine va_get (D := D) (ci := 2) (v := .int (nI R.length)) (C := R_pr) (T := F_pr) (N := 10) hx hb hts i_pr hown hK hP 2 rfl rfl 5 (by decide) (hts _ kf_md_50) (fun _ h9 => h9) rfl d_md_raise_18 ?_
      refine lv_icmp_ge (tgt := 55) hx hb d_md_raise_21 (by decide) (fun _ => ?_) (fun z9 => absurd (by rw [hl1, hSl]; exact nI_le (Nat.le_refl _) (by omega)) z9)
      refine lv_aload_n hx hb d_md_raise_55 rfl (lv_at hl 0 rfl) ?_
      refine va_get (D := D) (ci := 3) (v := .ref r) (C := R_md) (T := F_md) (N := 1) hx hb hts i_md hown hK hP 0 rfl rfl 0 (by decide) (hts _ kf_md_12) (fun _ h9 => h9) rfl d_md_raise_56 ?_
      refine lv_iload_n hx hb d_md_raise_59 rfl (lv_at hl 1 rfl) ?_
      refine wa_ald (k := km) (b := a) hx hb hK hP 1 2 rfl rfl hkm (by decide) hft d_md_raise_60 ?_
      refine va_get (D := D) (ci := 2) (v := .int (nI R.length)) (C := R_pr) (T := F_pr) (N := 10) hx hb hts i_pr hown hK hP 2 rfl rfl 5 (by decide) (hts _ kf_md_50) (fun _ h9 => h9) rfl d_md_raise_61 ?_
      exact cg_iret (u := (qs, qk, qv, qb, qn, Z, K, V2, P, N, fr, mm, fi, la, R)) hQ hx hb hr hlk hK hP hD hS (⟨by rw [hLl], Fr, Sp, hPA, hPN, hPS, hsF, by
        rw [eL]
        unfold rs kv
        rw [List.map_map]
        exact List.map_congr_left (fun y hy => by
          show (K y, V y + b0) = (K y, V2 y)
          rw [h1 y (by rw [hl1]; exact hPS.1.mem_iff.mpr hy)])⟩) d_md_raise_64
    | cons x l2 ih =>
      intro l1 V2 eS h1 h2 H locs hP hD hS ls hl
      have hxS : x ∈ Sp := by rw [eS]; exact List.mem_append_right _ (List.mem_cons_self ..)
      have hxR := hPS.1.mem_iff.mp hxS
      have hxn := pa_in hPA hxR
      have hlt : l1.length < R.length := by rw [← hSl, eS, List.length_append, List.length_cons]; omega
      have sZ : Z l1.length = nI x := by
        rw [hPS.2.2 _ (by omega), eS, getD_hd]
        rfl
      have nd1 : (l1 ++ x :: l2).Nodup := by rw [← eS]; exact hPS.1.nodup_iff.mpr (pa_nd hPA)
      have nx1 : x ∉ l1 := fun z9 => (List.nodup_append.mp nd1).2.2 x z9 x (List.mem_cons_self ..) rfl
      have nx2 : x ∉ l2 := (List.nodup_cons.mp (List.nodup_append.mp nd1).2.1).1
      refine lv_iload_n hx hb d_md_raise_11 rfl (lv_at hl 3 rfl) ?_
      refine lv_aload_n hx hb d_md_raise_12 rfl (lv_at hl 0 rfl) ?_
      refine va_get (D := D) (ci := 3) (v := .ref r) (C := R_md) (T := F_md) (N := 1) hx hb hts i_md hown hK hP 0 rfl rfl 0 (by decide) (hts _ kf_md_12) (fun _ h9 => h9) rfl d_md_raise_13 ?_
      refine lv_iload_n hx hb d_md_raise_16 rfl (lv_at hl 1 rfl) ?_
      refine wa_ald (k := km) (b := a) hx hb hK hP 1 2 rfl rfl hkm (by decide) hft d_md_raise_17 ?_
      refine va_get (D := D) (ci := 2) (v := .int (nI R.length)) (C := R_pr) (T := F_pr) (N := 10) hx hb hts i_pr hown hK hP 2 rfl rfl 5 (by decide) (hts _ kf_md_50) (fun _ h9 => h9) rfl d_md_raise_18 ?_
      refine lv_icmp_ge (tgt := 55) hx hb d_md_raise_21 (by decide) (fun z9 => absurd z9 (nI_ge hlt (by omega))) (fun _ => ?_)
      refine lv_aload_n hx hb d_md_raise_24 rfl (lv_at hl 0 rfl) ?_
      refine va_get (D := D) (ci := 3) (v := .ref r) (C := R_md) (T := F_md) (N := 1) hx hb hts i_md hown hK hP 0 rfl rfl 0 (by decide) (hts _ kf_md_12) (fun _ h9 => h9) rfl d_md_raise_25 ?_
      refine lv_iload_n hx hb d_md_raise_28 rfl (lv_at hl 1 rfl) ?_
      refine wa_ald (k := km) (b := a) hx hb hK hP 1 2 rfl rfl hkm (by decide) hft d_md_raise_29 ?_
      refine va_get (D := D) (ci := 2) (v := .ref qv) (C := R_pr) (T := F_pr) (N := 10) hx hb hts i_pr hown hK hP 2 rfl rfl 2 (by decide) (hts _ kf_md_36) (fun _ h9 => h9) rfl d_md_raise_30 ?_
      refine lv_aload_n hx hb d_md_raise_33 rfl (lv_at hl 0 rfl) ?_
      refine va_get (D := D) (ci := 3) (v := .ref r) (C := R_md) (T := F_md) (N := 1) hx hb hts i_md hown hK hP 0 rfl rfl 0 (by decide) (hts _ kf_md_12) (fun _ h9 => h9) rfl d_md_raise_34 ?_
      refine lv_iload_n hx hb d_md_raise_37 rfl (lv_at hl 1 rfl) ?_
      refine wa_ald (k := km) (b := a) hx hb hK hP 1 2 rfl rfl hkm (by decide) hft d_md_raise_38 ?_
      refine va_get (D := D) (ci := 2) (v := .ref qs) (C := R_pr) (T := F_pr) (N := 10) hx hb hts i_pr hown hK hP 2 rfl rfl 0 (by decide) (hts _ kf_md_54) (fun _ h9 => h9) rfl d_md_raise_39 ?_
      refine lv_iload_n hx hb d_md_raise_42 rfl (lv_at hl 3 rfl) ?_
      refine wa_ld (k := l1.length) hx hb hK hP 3 0 rfl rfl (by omega) hn d_md_raise_43 ?_
      refine tp_i (y := nI x) sZ ?_
      refine lv_dup2_11 hx hb d_md_raise_44 rfl rfl ?_
      refine wa_ld (k := x) hx hb hK hP 5 0 rfl rfl hxn.2 hn d_md_raise_45 ?_
      refine lv_iload_n hx hb d_md_raise_46 rfl (lv_at hl 2 rfl) ?_
      refine lv_iadd hx hb d_md_raise_47 ?_
      refine wa_st (k := x) (x := ((V2 x) + b0)) hx hb hK hP hD hS 5 0 rfl rfl hxn.2 hn d_md_raise_48 (fun H locs hP hD hS => ?_)
      have hP : va_P D cls ([(h, .inr (3, [.ref r])), (r, .inl (cP, 3, .inr (.inr (.inr (.inr ft)))))] ++ (px cI a qs qk qv qb qn (2 ^ (4 + j)) Z K (upd V2 x ((V2 x) + b0)) P N (nI R.length) fr (nI mm) fi la)) H := hP
      have hD : va_D A ([(h, .inr (3, [.ref r])), (r, .inl (cP, 3, .inr (.inr (.inr (.inr ft)))))] ++ (px cI a qs qk qv qb qn (2 ^ (4 + j)) Z K (upd V2 x ((V2 x) + b0)) P N (nI R.length) fr (nI mm) fi la)) := hD
      refine lv_iinc (v := nI (l1 ++ [x]).length) (lv' := [(3, .int (nI (l1 ++ [x]).length)), (0, .ref h), (1, .int (nI km)), (2, .int b0)]) hx hb d_md_raise_49 hl (k := 3) rfl (inc_l l1 x) (by decide) rfl (fun ls hl => ?_)
      refine lv_goto (tgt := 11) hx hb d_md_raise_52 (by decide) ?_
      exact ih (l1 ++ [x]) _ (by rw [eS]; simp) (fun y hy => by
          rcases List.mem_append.mp hy with h3 | h3
          · rw [pk_un (fun z9 => nx1 (by rw [← z9]; exact h3))]; exact h1 y h3
          · rw [List.mem_singleton.mp h3, pk_us, h2 x (List.mem_cons_self ..)]) (fun y hy => by rw [pk_un (fun z9 => nx2 (by rw [← z9]; exact hy))]; exact h2 y (List.mem_cons_of_mem _ hy)) _ _ hP hD hS ls (lv_sub hl [1, 2, 3, 0] rfl)
  exact loop Sp [] V rfl (fun y hy => absurd hy List.not_mem_nil) (fun y hy => rfl) _ _ hP hD hS ls (lv_sub hl [1, 2, 3, 0] rfl)
set_option maxRecDepth 100000 in
set_option maxHeartbeats 4000000 in
theorem c_md_raise_x (l : Launch) (D : va_G) (cI cT cP : ClassId) (h r : Nat) (q : Int32) (hq : bad q) (b0 : Int32) : Cg l y_md_raise b_md_raise 4 (some .int) 1 0 0 D (ty3 cI cT cP) [.ref h, .int q, .int b0] ([(h, .inr (3, [.ref r]))]) (fun (v : Option Value) (u : Unit) => v = some (.int (-1))) (fun u => [(h, .inr (3, [.ref r]))]) := by
  refine cg_enter rfl (Nat.le_of_ble_eq_true rfl) ?_
  intro p e s m below meth c args hx hb hr hlk hml hown hin hts A hA hK hP hD hS ls hl Q hQ
  have hl : lv_has ls 4 [(0, .ref h), (1, .int q), (2, .int b0)] := hl
  have hP : va_P D cls ([(h, .inr (3, [.ref r]))]) s.heap := hP
  have hD : va_D A ([(h, .inr (3, [.ref r]))]) := hD
  refine lv_iload_n hx hb d_md_raise_0 rfl (lv_at hl 1 rfl) ?_
  refine cg_S (hn := 1) (As := [.int q]) (rest := []) (wr := [(h, .inr (3, [.ref r]))]) hx hb hml hown hts (c_md_isMap_x l D cI cT cP q hq) km_md_20 kt_md_isMap kn_md kc_md_isMap (by decide +kernel) rfl ⟨Nat.le_of_ble_eq_true rfl, Nat.le_of_ble_eq_true rfl⟩ hK hP hD hS hA [] [0] rfl (by decide) rfl (by decide) (by decide) hl.1 rfl (Nat.le_of_ble_eq_true rfl) d_md_raise_1 ⟨Nat.zero_le _, Nat.zero_le _⟩ (fun v u H locs hpost hP hD hS => ?_)
  subst hpost
  refine W.eq (g2 := F0 m 4 ls [.int 0]) rfl ?_
  have hP : va_P D cls ([(h, .inr (3, [.ref r]))]) H := hP
  have hD : va_D A ([(h, .inr (3, [.ref r]))]) := hD
  refine lv_if_ne (tgt := 9) hx hb d_md_raise_4 (by decide) (fun z9 => absurd rfl z9) (fun _ => ?_)
  refine lv_iconst (v := (-1)) hx hb d_md_raise_7 (by decide) ?_
  exact cg_iret (u := ()) hQ hx hb hr hlk hK hP hD hS rfl d_md_raise_8
set_option maxRecDepth 100000 in
set_option maxHeartbeats 4000000 in
/-- entry -/
theorem c_md_entry (l : Launch) (D : va_G) (cI cT cP : ClassId) (h r : Nat) (ft : Nat → Option Nat) (km : Nat) (hkm : km < 3) (a : Nat) (hft : ft km = some a) (j : Nat) (L : List (Int32 × Int32)) (u0 : PB) (hL : PL j L u0) (q0 w0 : Int32) : Cg l y_md_entry b_md_entry 6 (some .long) 0 0 0 D (ty3 cI cT cP) [.ref h, .int (nI km), .int q0, .int w0] ([(h, .inr (3, [.ref r])), (r, .inl (cP, 3, .inr (.inr (.inr (.inr ft)))))] ++ (pw cI a j u0)) (fun (v : Option Value) (u : Unit) => v = some (.long (ey km w0 q0 L))) (fun u => [(h, .inr (3, [.ref r])), (r, .inl (cP, 3, .inr (.inr (.inr (.inr ft)))))] ++ (pw cI a j u0)) := by
  obtain ⟨qs, qk, qv, qb, qn, Z, K, V, P, N, fr, mm, fi, la, R⟩ := u0
  obtain ⟨Fr, Sp, hPA, hPN, hPS, hsF, eL⟩ := hL
  have hPA : PA (2 ^ (4 + j)) j mm R Fr := hPA
  have hPN : PN P N fi la R := hPN
  have hPS : PS K Z R Sp := hPS
  have hsF : sg N fr Fr (-1) := hsF
  have eL : L = kv K V R := eL
  have hLl : L.length = R.length := by rw [eL]; exact List.length_map ..
  have hpn := pa_n hPA
  have hn : 2 ^ (4 + j) < 2 ^ 31 := by omega
  have hSl : Sp.length = R.length := hPS.1.length_eq
  have hin2 : ∀ x, x ∈ Sp → x < 2 ^ (4 + j) := fun x hx1 => (pa_in hPA (hPS.1.mem_iff.mp hx1)).2
  have hnd := ps_nd hPS
  refine cg_enter rfl (Nat.le_of_ble_eq_true rfl) ?_
  intro p e s m below meth c args hx hb hr hlk hml hown hin hts A hA hK hP hD hS ls hl Q hQ
  have hl : lv_has ls 6 [(0, .ref h), (1, .int (nI km)), (2, .int q0), (3, .int w0)] := hl
  have hP : va_P D cls ([(h, .inr (3, [.ref r])), (r, .inl (cP, 3, .inr (.inr (.inr (.inr ft)))))] ++ (px cI a qs qk qv qb qn (2 ^ (4 + j)) Z K V P N (nI R.length) fr (nI mm) fi la)) s.heap := hP
  have hD : va_D A ([(h, .inr (3, [.ref r])), (r, .inl (cP, 3, .inr (.inr (.inr (.inr ft)))))] ++ (px cI a qs qk qv qb qn (2 ^ (4 + j)) Z K V P N (nI R.length) fr (nI mm) fi la)) := hD
  refine lv_iload_n hx hb d_md_entry_0 rfl (lv_at hl 1 rfl) ?_
  refine lv_iconst (v := 1) hx hb d_md_entry_1 (by decide) ?_
  by_cases hk0 : km = 0
  · refine lv_icmp_eq (tgt := 10) hx hb d_md_entry_2 (by decide) (fun z9 => absurd z9 (by rw [hk0]; decide)) (fun _ => ?_)
    refine lv_iload_n hx hb d_md_entry_5 rfl (lv_at hl 1 rfl) ?_
    refine lv_iconst (v := 2) hx hb d_md_entry_6 (by decide) ?_
    refine lv_icmp_ne (tgt := 19) hx hb d_md_entry_7 (by decide) (fun _ => ?_) (fun z9 => absurd z9 (by rw [hk0]; decide))
    refine lv_ldc2 hx hb hown (hts _ kk_md_24) d_md_entry_19 ?_
    exact cg_lret (u := ()) hQ hx hb hr hlk hK hP hD hS (by unfold ey; rw [if_pos (Or.inl hk0)]) d_md_entry_22
  · have hk12 : km = 1 ∨ km = 2 := by omega
    rcases hk12 with hk1 | hk1
    · refine lv_icmp_eq (tgt := 10) hx hb d_md_entry_2 (by decide) (fun _ => ?_) (fun z9 => absurd (by rw [hk1]; rfl) z9)
      refine lv_iload_n hx hb d_md_entry_10 rfl (lv_at hl 3 rfl) ?_
      by_cases h0 : w0 = 0
      · refine lv_if_eq (tgt := 23) hx hb d_md_entry_11 (by decide) (fun _ => ?_) (fun z9 => absurd h0 z9)
        have hey : ey km w0 q0 L = eyo w0 (at_ q0 L) := by unfold ey; rw [if_neg (fun z9 => z9.elim hk0 (fun z8 => z8 (Or.inl h0)))]
        refine lv_iload_n hx hb d_md_entry_23 rfl (lv_at hl 2 rfl) ?_
        rcases pk_ix q0 (n := R.length) (by omega) with g1 | g1 | ⟨i, g1, g2⟩
        · refine lv_if_lt (tgt := 40) hx hb d_md_entry_24 (by decide) (fun _ => ?_) (fun z9 => absurd g1 z9)
          refine lv_ldc2 hx hb hown (hts _ kk_md_34) d_md_entry_40 ?_
          exact cg_lret (u := ()) hQ hx hb hr hlk hK hP hD hS (by rw [hey]; unfold at_; rw [if_pos g1]; rfl) d_md_entry_43
        · have g0 : ¬ q0 < 0 := fun z9 => by
            have h3 := nI_pos' (n := R.length) (by omega)
            rw [Int32.le_iff_toInt_le] at g1 h3
            rw [Int32.lt_iff_toInt_lt] at z9
            omega
          have ha : at_ q0 L = none := by
            unfold at_
            obtain ⟨i, hi, e⟩ := nI_of g0
            rw [e] at g1
            rw [if_neg g0, e, nI_clamp hi, List.getElem?_eq_none]
            rw [hLl]
            exact (nI_leI (by omega) hi).mp g1
          refine lv_if_lt (tgt := 40) hx hb d_md_entry_24 (by decide) (fun z9 => absurd z9 g0) (fun _ => ?_)
          refine lv_iload_n hx hb d_md_entry_27 rfl (lv_at hl 2 rfl) ?_
          refine lv_aload_n hx hb d_md_entry_28 rfl (lv_at hl 0 rfl) ?_
          refine va_get (D := D) (ci := 3) (v := .ref r) (C := R_md) (T := F_md) (N := 1) hx hb hts i_md hown hK hP 0 rfl rfl 0 (by decide) (hts _ kf_md_12) (fun _ h9 => h9) rfl d_md_entry_29 ?_
          refine lv_iload_n hx hb d_md_entry_32 rfl (lv_at hl 1 rfl) ?_
          refine wa_ald (k := km) (b := a) hx hb hK hP 1 2 rfl rfl hkm (by decide) hft d_md_entry_33 ?_
          refine va_get (D := D) (ci := 2) (v := .int (nI R.length)) (C := R_pr) (T := F_pr) (N := 10) hx hb hts i_pr hown hK hP 2 rfl rfl 5 (by decide) (hts _ kf_md_50) (fun _ h9 => h9) rfl d_md_entry_34 ?_
          refine lv_icmp_lt (tgt := 44) hx hb d_md_entry_37 (by decide) (fun z9 => absurd z9 (fun z9 => absurd g1 (by rw [Int32.le_iff_toInt_le]; rw [Int32.lt_iff_toInt_lt] at z9; omega))) (fun _ => ?_)
          refine lv_ldc2 hx hb hown (hts _ kk_md_34) d_md_entry_40 ?_
          exact cg_lret (u := ()) hQ hx hb hr hlk hK hP hD hS (by rw [hey, ha]; rfl) d_md_entry_43
        · subst g2
          refine lv_if_lt (tgt := 40) hx hb d_md_entry_24 (by decide) (fun z9 => absurd z9 (nI_pos (by omega))) (fun _ => ?_)
          refine lv_iload_n hx hb d_md_entry_27 rfl (lv_at hl 2 rfl) ?_
          refine lv_aload_n hx hb d_md_entry_28 rfl (lv_at hl 0 rfl) ?_
          refine va_get (D := D) (ci := 3) (v := .ref r) (C := R_md) (T := F_md) (N := 1) hx hb hts i_md hown hK hP 0 rfl rfl 0 (by decide) (hts _ kf_md_12) (fun _ h9 => h9) rfl d_md_entry_29 ?_
          refine lv_iload_n hx hb d_md_entry_32 rfl (lv_at hl 1 rfl) ?_
          refine wa_ald (k := km) (b := a) hx hb hK hP 1 2 rfl rfl hkm (by decide) hft d_md_entry_33 ?_
          refine va_get (D := D) (ci := 2) (v := .int (nI R.length)) (C := R_pr) (T := F_pr) (N := 10) hx hb hts i_pr hown hK hP 2 rfl rfl 5 (by decide) (hts _ kf_md_50) (fun _ h9 => h9) rfl d_md_entry_34 ?_
          refine lv_icmp_lt (tgt := 44) hx hb d_md_entry_37 (by decide) (fun _ => ?_) (fun z9 => absurd (nI_lt g1 (by omega)) z9)
          refine lv_aload_n hx hb d_md_entry_44 rfl (lv_at hl 0 rfl) ?_
          refine va_get (D := D) (ci := 3) (v := .ref r) (C := R_md) (T := F_md) (N := 1) hx hb hts i_md hown hK hP 0 rfl rfl 0 (by decide) (hts _ kf_md_12) (fun _ h9 => h9) rfl d_md_entry_45 ?_
          refine lv_iload_n hx hb d_md_entry_48 rfl (lv_at hl 1 rfl) ?_
          refine wa_ald (k := km) (b := a) hx hb hK hP 1 2 rfl rfl hkm (by decide) hft d_md_entry_49 ?_
          refine va_get (D := D) (ci := 2) (v := .int fi) (C := R_pr) (T := F_pr) (N := 10) hx hb hts i_pr hown hK hP 2 rfl rfl 8 (by decide) (hts _ kf_md_63) (fun _ h9 => h9) rfl d_md_entry_50 ?_
          refine lv_istore (lv' := [(4, .int fi), (0, .ref h), (1, .int (nI km)), (2, .int (nI i)), (3, .int w0)]) hx hb d_md_entry_53 hl (by decide) rfl (fun ls hl => ?_)
          refine lv_iconst (v := 0) hx hb d_md_entry_55 (by decide) ?_
          refine lv_istore (lv' := [(5, .int 0), (4, .int fi), (0, .ref h), (1, .int (nI km)), (2, .int (nI i)), (3, .int w0)]) hx hb d_md_entry_56 hl (by decide) rfl (fun ls hl => ?_)
          have hfi : fi = hdI R := sg_hdI hPN.1
          have loop : ∀ (k : Nat) (l1 l2 : List Nat), R = l1 ++ l2 → l1.length + k = i → ∀ ls : Array Slot, lv_has ls 6 [(0, .ref h), (1, .int (nI km)), (2, .int (nI i)), (3, .int w0), (4, .int (hdI l2)), (5, .int (nI l1.length))] → W p l e (rmL 0 0 0) s m args below meth c s.heap [] 0 0 Q (F0 m 58 ls []) := by
            intro k
            induction k with
            | zero =>
              intro l1 l2 eR hk ls hl
              cases l2 with
              | nil =>
                exact absurd g1 (by rw [eR, List.append_nil]; omega)
              | cons x l2 =>
                have hl : lv_has ls 6 [(0, .ref h), (1, .int (nI km)), (2, .int (nI i)), (3, .int w0), (4, .int (nI x)), (5, .int (nI l1.length))] := hl
                have hxR : x ∈ R := by rw [eR]; exact List.mem_append_right _ (List.mem_cons_self ..)
                have hxn := pa_in hPA hxR
                have ha : at_ (nI i) L = some (K x, V x) := by
                  unfold at_
                  rw [if_neg (nI_pos (by omega)), nI_clamp (by omega), eL, eR, ← hk, Nat.add_zero]
                  simp [kv]
                refine lv_iload hx hb d_md_entry_58 (lv_at hl 5 rfl) ?_
                refine lv_iload_n hx hb d_md_entry_60 rfl (lv_at hl 2 rfl) ?_
                refine lv_icmp_ge (tgt := 84) hx hb d_md_entry_61 (by decide) (fun _ => ?_) (fun z9 => absurd (nI_le (by omega) (by omega)) z9)
                refine lv_iload_n hx hb d_md_entry_84 rfl (lv_at hl 3 rfl) ?_
                refine lv_if_ne (tgt := 104) hx hb d_md_entry_85 (by decide) (fun z9 => absurd h0 z9) (fun _ => ?_)
                refine lv_aload_n hx hb d_md_entry_88 rfl (lv_at hl 0 rfl) ?_
                refine va_get (D := D) (ci := 3) (v := .ref r) (C := R_md) (T := F_md) (N := 1) hx hb hts i_md hown hK hP 0 rfl rfl 0 (by decide) (hts _ kf_md_12) (fun _ h9 => h9) rfl d_md_entry_89 ?_
                refine lv_iload_n hx hb d_md_entry_92 rfl (lv_at hl 1 rfl) ?_
                refine wa_ald (k := km) (b := a) hx hb hK hP 1 2 rfl rfl hkm (by decide) hft d_md_entry_93 ?_
                refine va_get (D := D) (ci := 2) (v := .ref qk) (C := R_pr) (T := F_pr) (N := 10) hx hb hts i_pr hown hK hP 2 rfl rfl 1 (by decide) (hts _ kf_md_60) (fun _ h9 => h9) rfl d_md_entry_94 ?_
                refine lv_iload hx hb d_md_entry_97 (lv_at hl 4 rfl) ?_
                refine wa_ld (k := x) hx hb hK hP 4 0 rfl rfl hxn.2 hn d_md_entry_99 ?_
                refine lv_i2l (v := (K x).toInt64) hx hb d_md_entry_100 rfl ?_
                refine lv_goto (tgt := 117) hx hb d_md_entry_101 (by decide) ?_
                exact cg_lret (u := ()) hQ hx hb hr hlk hK hP hD hS (by rw [hey, ha, eyo_k h0]) d_md_entry_117
            | succ k ih =>
              intro l1 l2 eR hk ls hl
              cases l2 with
              | nil =>
                exact absurd g1 (by rw [eR, List.append_nil]; omega)
              | cons x l2 =>
                have hl : lv_has ls 6 [(0, .ref h), (1, .int (nI km)), (2, .int (nI i)), (3, .int w0), (4, .int (nI x)), (5, .int (nI l1.length))] := hl
                have hxR : x ∈ R := by rw [eR]; exact List.mem_append_right _ (List.mem_cons_self ..)
                have hxn := pa_in hPA hxR
                have sN : N x = hdI l2 := sg_hdI (sg_app.mp (show sg N fi (l1 ++ x :: l2) (-1) by rw [← eR]; exact hPN.1)).2
                refine lv_iload hx hb d_md_entry_58 (lv_at hl 5 rfl) ?_
                refine lv_iload_n hx hb d_md_entry_60 rfl (lv_at hl 2 rfl) ?_
                refine lv_icmp_ge (tgt := 84) hx hb d_md_entry_61 (by decide) (fun z9 => absurd z9 (nI_ge (by omega) (by omega))) (fun _ => ?_)
                refine lv_aload_n hx hb d_md_entry_64 rfl (lv_at hl 0 rfl) ?_
                refine va_get (D := D) (ci := 3) (v := .ref r) (C := R_md) (T := F_md) (N := 1) hx hb hts i_md hown hK hP 0 rfl rfl 0 (by decide) (hts _ kf_md_12) (fun _ h9 => h9) rfl d_md_entry_65 ?_
                refine lv_iload_n hx hb d_md_entry_68 rfl (lv_at hl 1 rfl) ?_
                refine wa_ald (k := km) (b := a) hx hb hK hP 1 2 rfl rfl hkm (by decide) hft d_md_entry_69 ?_
                refine va_get (D := D) (ci := 2) (v := .ref qn) (C := R_pr) (T := F_pr) (N := 10) hx hb hts i_pr hown hK hP 2 rfl rfl 4 (by decide) (hts _ kf_md_70) (fun _ h9 => h9) rfl d_md_entry_70 ?_
                refine lv_iload hx hb d_md_entry_73 (lv_at hl 4 rfl) ?_
                refine wa_ld (k := x) hx hb hK hP 7 0 rfl rfl hxn.2 hn d_md_entry_75 ?_
                refine tp_i (y := hdI l2) sN ?_
                refine lv_istore (lv' := [(4, .int (hdI l2)), (0, .ref h), (1, .int (nI km)), (2, .int (nI i)), (3, .int w0), (5, .int (nI l1.length))]) hx hb d_md_entry_76 hl (by decide) rfl (fun ls hl => ?_)
                refine lv_iinc (v := nI (l1 ++ [x]).length) (lv' := [(5, .int (nI (l1 ++ [x]).length)), (4, .int (hdI l2)), (0, .ref h), (1, .int (nI km)), (2, .int (nI i)), (3, .int w0)]) hx hb d_md_entry_78 hl (k := 5) rfl (inc_l l1 x) (by decide) rfl (fun ls hl => ?_)
                refine lv_goto (tgt := 58) hx hb d_md_entry_81 (by decide) ?_
                exact ih (l1 ++ [x]) l2 (by rw [eR]; simp) (by rw [List.length_append, List.length_cons, List.length_nil]; omega) ls (lv_sub hl [2, 3, 4, 5, 1, 0] rfl)
          rw [hfi] at hl
          exact loop i [] R rfl (by simp) ls (lv_sub hl [2, 3, 4, 5, 1, 0] rfl)
      · refine lv_if_eq (tgt := 23) hx hb d_md_entry_11 (by decide) (fun z9 => absurd z9 h0) (fun _ => ?_)
        refine lv_iload_n hx hb d_md_entry_14 rfl (lv_at hl 3 rfl) ?_
        refine lv_iconst (v := 1) hx hb d_md_entry_15 (by decide) ?_
        by_cases h1 : w0 = 1
        · refine lv_icmp_eq (tgt := 23) hx hb d_md_entry_16 (by decide) (fun _ => ?_) (fun z9 => absurd h1 z9)
          have hey : ey km w0 q0 L = eyo w0 (at_ q0 L) := by unfold ey; rw [if_neg (fun z9 => z9.elim hk0 (fun z8 => z8 (Or.inr h1)))]
          refine lv_iload_n hx hb d_md_entry_23 rfl (lv_at hl 2 rfl) ?_
          rcases pk_ix q0 (n := R.length) (by omega) with g1 | g1 | ⟨i, g1, g2⟩
          · refine lv_if_lt (tgt := 40) hx hb d_md_entry_24 (by decide) (fun _ => ?_) (fun z9 => absurd g1 z9)
            refine lv_ldc2 hx hb hown (hts _ kk_md_34) d_md_entry_40 ?_
            exact cg_lret (u := ()) hQ hx hb hr hlk hK hP hD hS (by rw [hey]; unfold at_; rw [if_pos g1]; rfl) d_md_entry_43
          · have g0 : ¬ q0 < 0 := fun z9 => by
              have h3 := nI_pos' (n := R.length) (by omega)
              rw [Int32.le_iff_toInt_le] at g1 h3
              rw [Int32.lt_iff_toInt_lt] at z9
              omega
            have ha : at_ q0 L = none := by
              unfold at_
              obtain ⟨i, hi, e⟩ := nI_of g0
              rw [e] at g1
              rw [if_neg g0, e, nI_clamp hi, List.getElem?_eq_none]
              rw [hLl]
              exact (nI_leI (by omega) hi).mp g1
            refine lv_if_lt (tgt := 40) hx hb d_md_entry_24 (by decide) (fun z9 => absurd z9 g0) (fun _ => ?_)
            refine lv_iload_n hx hb d_md_entry_27 rfl (lv_at hl 2 rfl) ?_
            refine lv_aload_n hx hb d_md_entry_28 rfl (lv_at hl 0 rfl) ?_
            refine va_get (D := D) (ci := 3) (v := .ref r) (C := R_md) (T := F_md) (N := 1) hx hb hts i_md hown hK hP 0 rfl rfl 0 (by decide) (hts _ kf_md_12) (fun _ h9 => h9) rfl d_md_entry_29 ?_
            refine lv_iload_n hx hb d_md_entry_32 rfl (lv_at hl 1 rfl) ?_
            refine wa_ald (k := km) (b := a) hx hb hK hP 1 2 rfl rfl hkm (by decide) hft d_md_entry_33 ?_
            refine va_get (D := D) (ci := 2) (v := .int (nI R.length)) (C := R_pr) (T := F_pr) (N := 10) hx hb hts i_pr hown hK hP 2 rfl rfl 5 (by decide) (hts _ kf_md_50) (fun _ h9 => h9) rfl d_md_entry_34 ?_
            refine lv_icmp_lt (tgt := 44) hx hb d_md_entry_37 (by decide) (fun z9 => absurd z9 (fun z9 => absurd g1 (by rw [Int32.le_iff_toInt_le]; rw [Int32.lt_iff_toInt_lt] at z9; omega))) (fun _ => ?_)
            refine lv_ldc2 hx hb hown (hts _ kk_md_34) d_md_entry_40 ?_
            exact cg_lret (u := ()) hQ hx hb hr hlk hK hP hD hS (by rw [hey, ha]; rfl) d_md_entry_43
          · subst g2
            refine lv_if_lt (tgt := 40) hx hb d_md_entry_24 (by decide) (fun z9 => absurd z9 (nI_pos (by omega))) (fun _ => ?_)
            refine lv_iload_n hx hb d_md_entry_27 rfl (lv_at hl 2 rfl) ?_
            refine lv_aload_n hx hb d_md_entry_28 rfl (lv_at hl 0 rfl) ?_
            refine va_get (D := D) (ci := 3) (v := .ref r) (C := R_md) (T := F_md) (N := 1) hx hb hts i_md hown hK hP 0 rfl rfl 0 (by decide) (hts _ kf_md_12) (fun _ h9 => h9) rfl d_md_entry_29 ?_
            refine lv_iload_n hx hb d_md_entry_32 rfl (lv_at hl 1 rfl) ?_
            refine wa_ald (k := km) (b := a) hx hb hK hP 1 2 rfl rfl hkm (by decide) hft d_md_entry_33 ?_
            refine va_get (D := D) (ci := 2) (v := .int (nI R.length)) (C := R_pr) (T := F_pr) (N := 10) hx hb hts i_pr hown hK hP 2 rfl rfl 5 (by decide) (hts _ kf_md_50) (fun _ h9 => h9) rfl d_md_entry_34 ?_
            refine lv_icmp_lt (tgt := 44) hx hb d_md_entry_37 (by decide) (fun _ => ?_) (fun z9 => absurd (nI_lt g1 (by omega)) z9)
            refine lv_aload_n hx hb d_md_entry_44 rfl (lv_at hl 0 rfl) ?_
            refine va_get (D := D) (ci := 3) (v := .ref r) (C := R_md) (T := F_md) (N := 1) hx hb hts i_md hown hK hP 0 rfl rfl 0 (by decide) (hts _ kf_md_12) (fun _ h9 => h9) rfl d_md_entry_45 ?_
            refine lv_iload_n hx hb d_md_entry_48 rfl (lv_at hl 1 rfl) ?_
            refine wa_ald (k := km) (b := a) hx hb hK hP 1 2 rfl rfl hkm (by decide) hft d_md_entry_49 ?_
            refine va_get (D := D) (ci := 2) (v := .int fi) (C := R_pr) (T := F_pr) (N := 10) hx hb hts i_pr hown hK hP 2 rfl rfl 8 (by decide) (hts _ kf_md_63) (fun _ h9 => h9) rfl d_md_entry_50 ?_
            refine lv_istore (lv' := [(4, .int fi), (0, .ref h), (1, .int (nI km)), (2, .int (nI i)), (3, .int w0)]) hx hb d_md_entry_53 hl (by decide) rfl (fun ls hl => ?_)
            refine lv_iconst (v := 0) hx hb d_md_entry_55 (by decide) ?_
            refine lv_istore (lv' := [(5, .int 0), (4, .int fi), (0, .ref h), (1, .int (nI km)), (2, .int (nI i)), (3, .int w0)]) hx hb d_md_entry_56 hl (by decide) rfl (fun ls hl => ?_)
            have hfi : fi = hdI R := sg_hdI hPN.1
            have loop : ∀ (k : Nat) (l1 l2 : List Nat), R = l1 ++ l2 → l1.length + k = i → ∀ ls : Array Slot, lv_has ls 6 [(0, .ref h), (1, .int (nI km)), (2, .int (nI i)), (3, .int w0), (4, .int (hdI l2)), (5, .int (nI l1.length))] → W p l e (rmL 0 0 0) s m args below meth c s.heap [] 0 0 Q (F0 m 58 ls []) := by
              intro k
              induction k with
              | zero =>
                intro l1 l2 eR hk ls hl
                cases l2 with
                | nil =>
                  exact absurd g1 (by rw [eR, List.append_nil]; omega)
                | cons x l2 =>
                  have hl : lv_has ls 6 [(0, .ref h), (1, .int (nI km)), (2, .int (nI i)), (3, .int w0), (4, .int (nI x)), (5, .int (nI l1.length))] := hl
                  have hxR : x ∈ R := by rw [eR]; exact List.mem_append_right _ (List.mem_cons_self ..)
                  have hxn := pa_in hPA hxR
                  have ha : at_ (nI i) L = some (K x, V x) := by
                    unfold at_
                    rw [if_neg (nI_pos (by omega)), nI_clamp (by omega), eL, eR, ← hk, Nat.add_zero]
                    simp [kv]
                  refine lv_iload hx hb d_md_entry_58 (lv_at hl 5 rfl) ?_
                  refine lv_iload_n hx hb d_md_entry_60 rfl (lv_at hl 2 rfl) ?_
                  refine lv_icmp_ge (tgt := 84) hx hb d_md_entry_61 (by decide) (fun _ => ?_) (fun z9 => absurd (nI_le (by omega) (by omega)) z9)
                  refine lv_iload_n hx hb d_md_entry_84 rfl (lv_at hl 3 rfl) ?_
                  refine lv_if_ne (tgt := 104) hx hb d_md_entry_85 (by decide) (fun _ => ?_) (fun z9 => absurd z9 h0)
                  refine lv_aload_n hx hb d_md_entry_104 rfl (lv_at hl 0 rfl) ?_
                  refine va_get (D := D) (ci := 3) (v := .ref r) (C := R_md) (T := F_md) (N := 1) hx hb hts i_md hown hK hP 0 rfl rfl 0 (by decide) (hts _ kf_md_12) (fun _ h9 => h9) rfl d_md_entry_105 ?_
                  refine lv_iload_n hx hb d_md_entry_108 rfl (lv_at hl 1 rfl) ?_
                  refine wa_ald (k := km) (b := a) hx hb hK hP 1 2 rfl rfl hkm (by decide) hft d_md_entry_109 ?_
                  refine va_get (D := D) (ci := 2) (v := .ref qv) (C := R_pr) (T := F_pr) (N := 10) hx hb hts i_pr hown hK hP 2 rfl rfl 2 (by decide) (hts _ kf_md_36) (fun _ h9 => h9) rfl d_md_entry_110 ?_
                  refine lv_iload hx hb d_md_entry_113 (lv_at hl 4 rfl) ?_
                  refine wa_ld (k := x) hx hb hK hP 5 0 rfl rfl hxn.2 hn d_md_entry_115 ?_
                  refine lv_i2l (v := (V x).toInt64) hx hb d_md_entry_116 rfl ?_
                  exact cg_lret (u := ()) hQ hx hb hr hlk hK hP hD hS (by rw [hey, ha, eyo_v h0]) d_md_entry_117
              | succ k ih =>
                intro l1 l2 eR hk ls hl
                cases l2 with
                | nil =>
                  exact absurd g1 (by rw [eR, List.append_nil]; omega)
                | cons x l2 =>
                  have hl : lv_has ls 6 [(0, .ref h), (1, .int (nI km)), (2, .int (nI i)), (3, .int w0), (4, .int (nI x)), (5, .int (nI l1.length))] := hl
                  have hxR : x ∈ R := by rw [eR]; exact List.mem_append_right _ (List.mem_cons_self ..)
                  have hxn := pa_in hPA hxR
                  have sN : N x = hdI l2 := sg_hdI (sg_app.mp (show sg N fi (l1 ++ x :: l2) (-1) by rw [← eR]; exact hPN.1)).2
                  refine lv_iload hx hb d_md_entry_58 (lv_at hl 5 rfl) ?_
                  refine lv_iload_n hx hb d_md_entry_60 rfl (lv_at hl 2 rfl) ?_
                  refine lv_icmp_ge (tgt := 84) hx hb d_md_entry_61 (by decide) (fun z9 => absurd z9 (nI_ge (by omega) (by omega))) (fun _ => ?_)
                  refine lv_aload_n hx hb d_md_entry_64 rfl (lv_at hl 0 rfl) ?_
                  refine va_get (D := D) (ci := 3) (v := .ref r) (C := R_md) (T := F_md) (N := 1) hx hb hts i_md hown hK hP 0 rfl rfl 0 (by decide) (hts _ kf_md_12) (fun _ h9 => h9) rfl d_md_entry_65 ?_
                  refine lv_iload_n hx hb d_md_entry_68 rfl (lv_at hl 1 rfl) ?_
                  refine wa_ald (k := km) (b := a) hx hb hK hP 1 2 rfl rfl hkm (by decide) hft d_md_entry_69 ?_
                  refine va_get (D := D) (ci := 2) (v := .ref qn) (C := R_pr) (T := F_pr) (N := 10) hx hb hts i_pr hown hK hP 2 rfl rfl 4 (by decide) (hts _ kf_md_70) (fun _ h9 => h9) rfl d_md_entry_70 ?_
                  refine lv_iload hx hb d_md_entry_73 (lv_at hl 4 rfl) ?_
                  refine wa_ld (k := x) hx hb hK hP 7 0 rfl rfl hxn.2 hn d_md_entry_75 ?_
                  refine tp_i (y := hdI l2) sN ?_
                  refine lv_istore (lv' := [(4, .int (hdI l2)), (0, .ref h), (1, .int (nI km)), (2, .int (nI i)), (3, .int w0), (5, .int (nI l1.length))]) hx hb d_md_entry_76 hl (by decide) rfl (fun ls hl => ?_)
                  refine lv_iinc (v := nI (l1 ++ [x]).length) (lv' := [(5, .int (nI (l1 ++ [x]).length)), (4, .int (hdI l2)), (0, .ref h), (1, .int (nI km)), (2, .int (nI i)), (3, .int w0)]) hx hb d_md_entry_78 hl (k := 5) rfl (inc_l l1 x) (by decide) rfl (fun ls hl => ?_)
                  refine lv_goto (tgt := 58) hx hb d_md_entry_81 (by decide) ?_
                  exact ih (l1 ++ [x]) l2 (by rw [eR]; simp) (by rw [List.length_append, List.length_cons, List.length_nil]; omega) ls (lv_sub hl [2, 3, 4, 5, 1, 0] rfl)
            rw [hfi] at hl
            exact loop i [] R rfl (by simp) ls (lv_sub hl [2, 3, 4, 5, 1, 0] rfl)
        · refine lv_icmp_eq (tgt := 23) hx hb d_md_entry_16 (by decide) (fun z9 => absurd z9 h1) (fun _ => ?_)
          refine lv_ldc2 hx hb hown (hts _ kk_md_24) d_md_entry_19 ?_
          exact cg_lret (u := ()) hQ hx hb hr hlk hK hP hD hS (by unfold ey; rw [if_pos (Or.inr (fun z9 => z9.elim h0 h1))]) d_md_entry_22
    · refine lv_icmp_eq (tgt := 10) hx hb d_md_entry_2 (by decide) (fun z9 => absurd z9 (by rw [hk1]; decide)) (fun _ => ?_)
      refine lv_iload_n hx hb d_md_entry_5 rfl (lv_at hl 1 rfl) ?_
      refine lv_iconst (v := 2) hx hb d_md_entry_6 (by decide) ?_
      refine lv_icmp_ne (tgt := 19) hx hb d_md_entry_7 (by decide) (fun z9 => absurd (by rw [hk1]; rfl) z9) (fun _ => ?_)
      refine lv_iload_n hx hb d_md_entry_10 rfl (lv_at hl 3 rfl) ?_
      by_cases h0 : w0 = 0
      · refine lv_if_eq (tgt := 23) hx hb d_md_entry_11 (by decide) (fun _ => ?_) (fun z9 => absurd h0 z9)
        have hey : ey km w0 q0 L = eyo w0 (at_ q0 L) := by unfold ey; rw [if_neg (fun z9 => z9.elim hk0 (fun z8 => z8 (Or.inl h0)))]
        refine lv_iload_n hx hb d_md_entry_23 rfl (lv_at hl 2 rfl) ?_
        rcases pk_ix q0 (n := R.length) (by omega) with g1 | g1 | ⟨i, g1, g2⟩
        · refine lv_if_lt (tgt := 40) hx hb d_md_entry_24 (by decide) (fun _ => ?_) (fun z9 => absurd g1 z9)
          refine lv_ldc2 hx hb hown (hts _ kk_md_34) d_md_entry_40 ?_
          exact cg_lret (u := ()) hQ hx hb hr hlk hK hP hD hS (by rw [hey]; unfold at_; rw [if_pos g1]; rfl) d_md_entry_43
        · have g0 : ¬ q0 < 0 := fun z9 => by
            have h3 := nI_pos' (n := R.length) (by omega)
            rw [Int32.le_iff_toInt_le] at g1 h3
            rw [Int32.lt_iff_toInt_lt] at z9
            omega
          have ha : at_ q0 L = none := by
            unfold at_
            obtain ⟨i, hi, e⟩ := nI_of g0
            rw [e] at g1
            rw [if_neg g0, e, nI_clamp hi, List.getElem?_eq_none]
            rw [hLl]
            exact (nI_leI (by omega) hi).mp g1
          refine lv_if_lt (tgt := 40) hx hb d_md_entry_24 (by decide) (fun z9 => absurd z9 g0) (fun _ => ?_)
          refine lv_iload_n hx hb d_md_entry_27 rfl (lv_at hl 2 rfl) ?_
          refine lv_aload_n hx hb d_md_entry_28 rfl (lv_at hl 0 rfl) ?_
          refine va_get (D := D) (ci := 3) (v := .ref r) (C := R_md) (T := F_md) (N := 1) hx hb hts i_md hown hK hP 0 rfl rfl 0 (by decide) (hts _ kf_md_12) (fun _ h9 => h9) rfl d_md_entry_29 ?_
          refine lv_iload_n hx hb d_md_entry_32 rfl (lv_at hl 1 rfl) ?_
          refine wa_ald (k := km) (b := a) hx hb hK hP 1 2 rfl rfl hkm (by decide) hft d_md_entry_33 ?_
          refine va_get (D := D) (ci := 2) (v := .int (nI R.length)) (C := R_pr) (T := F_pr) (N := 10) hx hb hts i_pr hown hK hP 2 rfl rfl 5 (by decide) (hts _ kf_md_50) (fun _ h9 => h9) rfl d_md_entry_34 ?_
          refine lv_icmp_lt (tgt := 44) hx hb d_md_entry_37 (by decide) (fun z9 => absurd z9 (fun z9 => absurd g1 (by rw [Int32.le_iff_toInt_le]; rw [Int32.lt_iff_toInt_lt] at z9; omega))) (fun _ => ?_)
          refine lv_ldc2 hx hb hown (hts _ kk_md_34) d_md_entry_40 ?_
          exact cg_lret (u := ()) hQ hx hb hr hlk hK hP hD hS (by rw [hey, ha]; rfl) d_md_entry_43
        · subst g2
          refine lv_if_lt (tgt := 40) hx hb d_md_entry_24 (by decide) (fun z9 => absurd z9 (nI_pos (by omega))) (fun _ => ?_)
          refine lv_iload_n hx hb d_md_entry_27 rfl (lv_at hl 2 rfl) ?_
          refine lv_aload_n hx hb d_md_entry_28 rfl (lv_at hl 0 rfl) ?_
          refine va_get (D := D) (ci := 3) (v := .ref r) (C := R_md) (T := F_md) (N := 1) hx hb hts i_md hown hK hP 0 rfl rfl 0 (by decide) (hts _ kf_md_12) (fun _ h9 => h9) rfl d_md_entry_29 ?_
          refine lv_iload_n hx hb d_md_entry_32 rfl (lv_at hl 1 rfl) ?_
          refine wa_ald (k := km) (b := a) hx hb hK hP 1 2 rfl rfl hkm (by decide) hft d_md_entry_33 ?_
          refine va_get (D := D) (ci := 2) (v := .int (nI R.length)) (C := R_pr) (T := F_pr) (N := 10) hx hb hts i_pr hown hK hP 2 rfl rfl 5 (by decide) (hts _ kf_md_50) (fun _ h9 => h9) rfl d_md_entry_34 ?_
          refine lv_icmp_lt (tgt := 44) hx hb d_md_entry_37 (by decide) (fun _ => ?_) (fun z9 => absurd (nI_lt g1 (by omega)) z9)
          refine lv_aload_n hx hb d_md_entry_44 rfl (lv_at hl 0 rfl) ?_
          refine va_get (D := D) (ci := 3) (v := .ref r) (C := R_md) (T := F_md) (N := 1) hx hb hts i_md hown hK hP 0 rfl rfl 0 (by decide) (hts _ kf_md_12) (fun _ h9 => h9) rfl d_md_entry_45 ?_
          refine lv_iload_n hx hb d_md_entry_48 rfl (lv_at hl 1 rfl) ?_
          refine wa_ald (k := km) (b := a) hx hb hK hP 1 2 rfl rfl hkm (by decide) hft d_md_entry_49 ?_
          refine va_get (D := D) (ci := 2) (v := .int fi) (C := R_pr) (T := F_pr) (N := 10) hx hb hts i_pr hown hK hP 2 rfl rfl 8 (by decide) (hts _ kf_md_63) (fun _ h9 => h9) rfl d_md_entry_50 ?_
          refine lv_istore (lv' := [(4, .int fi), (0, .ref h), (1, .int (nI km)), (2, .int (nI i)), (3, .int w0)]) hx hb d_md_entry_53 hl (by decide) rfl (fun ls hl => ?_)
          refine lv_iconst (v := 0) hx hb d_md_entry_55 (by decide) ?_
          refine lv_istore (lv' := [(5, .int 0), (4, .int fi), (0, .ref h), (1, .int (nI km)), (2, .int (nI i)), (3, .int w0)]) hx hb d_md_entry_56 hl (by decide) rfl (fun ls hl => ?_)
          have hfi : fi = hdI R := sg_hdI hPN.1
          have loop : ∀ (k : Nat) (l1 l2 : List Nat), R = l1 ++ l2 → l1.length + k = i → ∀ ls : Array Slot, lv_has ls 6 [(0, .ref h), (1, .int (nI km)), (2, .int (nI i)), (3, .int w0), (4, .int (hdI l2)), (5, .int (nI l1.length))] → W p l e (rmL 0 0 0) s m args below meth c s.heap [] 0 0 Q (F0 m 58 ls []) := by
            intro k
            induction k with
            | zero =>
              intro l1 l2 eR hk ls hl
              cases l2 with
              | nil =>
                exact absurd g1 (by rw [eR, List.append_nil]; omega)
              | cons x l2 =>
                have hl : lv_has ls 6 [(0, .ref h), (1, .int (nI km)), (2, .int (nI i)), (3, .int w0), (4, .int (nI x)), (5, .int (nI l1.length))] := hl
                have hxR : x ∈ R := by rw [eR]; exact List.mem_append_right _ (List.mem_cons_self ..)
                have hxn := pa_in hPA hxR
                have ha : at_ (nI i) L = some (K x, V x) := by
                  unfold at_
                  rw [if_neg (nI_pos (by omega)), nI_clamp (by omega), eL, eR, ← hk, Nat.add_zero]
                  simp [kv]
                refine lv_iload hx hb d_md_entry_58 (lv_at hl 5 rfl) ?_
                refine lv_iload_n hx hb d_md_entry_60 rfl (lv_at hl 2 rfl) ?_
                refine lv_icmp_ge (tgt := 84) hx hb d_md_entry_61 (by decide) (fun _ => ?_) (fun z9 => absurd (nI_le (by omega) (by omega)) z9)
                refine lv_iload_n hx hb d_md_entry_84 rfl (lv_at hl 3 rfl) ?_
                refine lv_if_ne (tgt := 104) hx hb d_md_entry_85 (by decide) (fun z9 => absurd h0 z9) (fun _ => ?_)
                refine lv_aload_n hx hb d_md_entry_88 rfl (lv_at hl 0 rfl) ?_
                refine va_get (D := D) (ci := 3) (v := .ref r) (C := R_md) (T := F_md) (N := 1) hx hb hts i_md hown hK hP 0 rfl rfl 0 (by decide) (hts _ kf_md_12) (fun _ h9 => h9) rfl d_md_entry_89 ?_
                refine lv_iload_n hx hb d_md_entry_92 rfl (lv_at hl 1 rfl) ?_
                refine wa_ald (k := km) (b := a) hx hb hK hP 1 2 rfl rfl hkm (by decide) hft d_md_entry_93 ?_
                refine va_get (D := D) (ci := 2) (v := .ref qk) (C := R_pr) (T := F_pr) (N := 10) hx hb hts i_pr hown hK hP 2 rfl rfl 1 (by decide) (hts _ kf_md_60) (fun _ h9 => h9) rfl d_md_entry_94 ?_
                refine lv_iload hx hb d_md_entry_97 (lv_at hl 4 rfl) ?_
                refine wa_ld (k := x) hx hb hK hP 4 0 rfl rfl hxn.2 hn d_md_entry_99 ?_
                refine lv_i2l (v := (K x).toInt64) hx hb d_md_entry_100 rfl ?_
                refine lv_goto (tgt := 117) hx hb d_md_entry_101 (by decide) ?_
                exact cg_lret (u := ()) hQ hx hb hr hlk hK hP hD hS (by rw [hey, ha, eyo_k h0]) d_md_entry_117
            | succ k ih =>
              intro l1 l2 eR hk ls hl
              cases l2 with
              | nil =>
                exact absurd g1 (by rw [eR, List.append_nil]; omega)
              | cons x l2 =>
                have hl : lv_has ls 6 [(0, .ref h), (1, .int (nI km)), (2, .int (nI i)), (3, .int w0), (4, .int (nI x)), (5, .int (nI l1.length))] := hl
                have hxR : x ∈ R := by rw [eR]; exact List.mem_append_right _ (List.mem_cons_self ..)
                have hxn := pa_in hPA hxR
                have sN : N x = hdI l2 := sg_hdI (sg_app.mp (show sg N fi (l1 ++ x :: l2) (-1) by rw [← eR]; exact hPN.1)).2
                refine lv_iload hx hb d_md_entry_58 (lv_at hl 5 rfl) ?_
                refine lv_iload_n hx hb d_md_entry_60 rfl (lv_at hl 2 rfl) ?_
                refine lv_icmp_ge (tgt := 84) hx hb d_md_entry_61 (by decide) (fun z9 => absurd z9 (nI_ge (by omega) (by omega))) (fun _ => ?_)
                refine lv_aload_n hx hb d_md_entry_64 rfl (lv_at hl 0 rfl) ?_
                refine va_get (D := D) (ci := 3) (v := .ref r) (C := R_md) (T := F_md) (N := 1) hx hb hts i_md hown hK hP 0 rfl rfl 0 (by decide) (hts _ kf_md_12) (fun _ h9 => h9) rfl d_md_entry_65 ?_
                refine lv_iload_n hx hb d_md_entry_68 rfl (lv_at hl 1 rfl) ?_
                refine wa_ald (k := km) (b := a) hx hb hK hP 1 2 rfl rfl hkm (by decide) hft d_md_entry_69 ?_
                refine va_get (D := D) (ci := 2) (v := .ref qn) (C := R_pr) (T := F_pr) (N := 10) hx hb hts i_pr hown hK hP 2 rfl rfl 4 (by decide) (hts _ kf_md_70) (fun _ h9 => h9) rfl d_md_entry_70 ?_
                refine lv_iload hx hb d_md_entry_73 (lv_at hl 4 rfl) ?_
                refine wa_ld (k := x) hx hb hK hP 7 0 rfl rfl hxn.2 hn d_md_entry_75 ?_
                refine tp_i (y := hdI l2) sN ?_
                refine lv_istore (lv' := [(4, .int (hdI l2)), (0, .ref h), (1, .int (nI km)), (2, .int (nI i)), (3, .int w0), (5, .int (nI l1.length))]) hx hb d_md_entry_76 hl (by decide) rfl (fun ls hl => ?_)
                refine lv_iinc (v := nI (l1 ++ [x]).length) (lv' := [(5, .int (nI (l1 ++ [x]).length)), (4, .int (hdI l2)), (0, .ref h), (1, .int (nI km)), (2, .int (nI i)), (3, .int w0)]) hx hb d_md_entry_78 hl (k := 5) rfl (inc_l l1 x) (by decide) rfl (fun ls hl => ?_)
                refine lv_goto (tgt := 58) hx hb d_md_entry_81 (by decide) ?_
                exact ih (l1 ++ [x]) l2 (by rw [eR]; simp) (by rw [List.length_append, List.length_cons, List.length_nil]; omega) ls (lv_sub hl [2, 3, 4, 5, 1, 0] rfl)
          rw [hfi] at hl
          exact loop i [] R rfl (by simp) ls (lv_sub hl [2, 3, 4, 5, 1, 0] rfl)
      · refine lv_if_eq (tgt := 23) hx hb d_md_entry_11 (by decide) (fun z9 => absurd z9 h0) (fun _ => ?_)
        refine lv_iload_n hx hb d_md_entry_14 rfl (lv_at hl 3 rfl) ?_
        refine lv_iconst (v := 1) hx hb d_md_entry_15 (by decide) ?_
        by_cases h1 : w0 = 1
        · refine lv_icmp_eq (tgt := 23) hx hb d_md_entry_16 (by decide) (fun _ => ?_) (fun z9 => absurd h1 z9)
          have hey : ey km w0 q0 L = eyo w0 (at_ q0 L) := by unfold ey; rw [if_neg (fun z9 => z9.elim hk0 (fun z8 => z8 (Or.inr h1)))]
          refine lv_iload_n hx hb d_md_entry_23 rfl (lv_at hl 2 rfl) ?_
          rcases pk_ix q0 (n := R.length) (by omega) with g1 | g1 | ⟨i, g1, g2⟩
          · refine lv_if_lt (tgt := 40) hx hb d_md_entry_24 (by decide) (fun _ => ?_) (fun z9 => absurd g1 z9)
            refine lv_ldc2 hx hb hown (hts _ kk_md_34) d_md_entry_40 ?_
            exact cg_lret (u := ()) hQ hx hb hr hlk hK hP hD hS (by rw [hey]; unfold at_; rw [if_pos g1]; rfl) d_md_entry_43
          · have g0 : ¬ q0 < 0 := fun z9 => by
              have h3 := nI_pos' (n := R.length) (by omega)
              rw [Int32.le_iff_toInt_le] at g1 h3
              rw [Int32.lt_iff_toInt_lt] at z9
              omega
            have ha : at_ q0 L = none := by
              unfold at_
              obtain ⟨i, hi, e⟩ := nI_of g0
              rw [e] at g1
              rw [if_neg g0, e, nI_clamp hi, List.getElem?_eq_none]
              rw [hLl]
              exact (nI_leI (by omega) hi).mp g1
            refine lv_if_lt (tgt := 40) hx hb d_md_entry_24 (by decide) (fun z9 => absurd z9 g0) (fun _ => ?_)
            refine lv_iload_n hx hb d_md_entry_27 rfl (lv_at hl 2 rfl) ?_
            refine lv_aload_n hx hb d_md_entry_28 rfl (lv_at hl 0 rfl) ?_
            refine va_get (D := D) (ci := 3) (v := .ref r) (C := R_md) (T := F_md) (N := 1) hx hb hts i_md hown hK hP 0 rfl rfl 0 (by decide) (hts _ kf_md_12) (fun _ h9 => h9) rfl d_md_entry_29 ?_
            refine lv_iload_n hx hb d_md_entry_32 rfl (lv_at hl 1 rfl) ?_
            refine wa_ald (k := km) (b := a) hx hb hK hP 1 2 rfl rfl hkm (by decide) hft d_md_entry_33 ?_
            refine va_get (D := D) (ci := 2) (v := .int (nI R.length)) (C := R_pr) (T := F_pr) (N := 10) hx hb hts i_pr hown hK hP 2 rfl rfl 5 (by decide) (hts _ kf_md_50) (fun _ h9 => h9) rfl d_md_entry_34 ?_
            refine lv_icmp_lt (tgt := 44) hx hb d_md_entry_37 (by decide) (fun z9 => absurd z9 (fun z9 => absurd g1 (by rw [Int32.le_iff_toInt_le]; rw [Int32.lt_iff_toInt_lt] at z9; omega))) (fun _ => ?_)
            refine lv_ldc2 hx hb hown (hts _ kk_md_34) d_md_entry_40 ?_
            exact cg_lret (u := ()) hQ hx hb hr hlk hK hP hD hS (by rw [hey, ha]; rfl) d_md_entry_43
          · subst g2
            refine lv_if_lt (tgt := 40) hx hb d_md_entry_24 (by decide) (fun z9 => absurd z9 (nI_pos (by omega))) (fun _ => ?_)
            refine lv_iload_n hx hb d_md_entry_27 rfl (lv_at hl 2 rfl) ?_
            refine lv_aload_n hx hb d_md_entry_28 rfl (lv_at hl 0 rfl) ?_
            refine va_get (D := D) (ci := 3) (v := .ref r) (C := R_md) (T := F_md) (N := 1) hx hb hts i_md hown hK hP 0 rfl rfl 0 (by decide) (hts _ kf_md_12) (fun _ h9 => h9) rfl d_md_entry_29 ?_
            refine lv_iload_n hx hb d_md_entry_32 rfl (lv_at hl 1 rfl) ?_
            refine wa_ald (k := km) (b := a) hx hb hK hP 1 2 rfl rfl hkm (by decide) hft d_md_entry_33 ?_
            refine va_get (D := D) (ci := 2) (v := .int (nI R.length)) (C := R_pr) (T := F_pr) (N := 10) hx hb hts i_pr hown hK hP 2 rfl rfl 5 (by decide) (hts _ kf_md_50) (fun _ h9 => h9) rfl d_md_entry_34 ?_
            refine lv_icmp_lt (tgt := 44) hx hb d_md_entry_37 (by decide) (fun _ => ?_) (fun z9 => absurd (nI_lt g1 (by omega)) z9)
            refine lv_aload_n hx hb d_md_entry_44 rfl (lv_at hl 0 rfl) ?_
            refine va_get (D := D) (ci := 3) (v := .ref r) (C := R_md) (T := F_md) (N := 1) hx hb hts i_md hown hK hP 0 rfl rfl 0 (by decide) (hts _ kf_md_12) (fun _ h9 => h9) rfl d_md_entry_45 ?_
            refine lv_iload_n hx hb d_md_entry_48 rfl (lv_at hl 1 rfl) ?_
            refine wa_ald (k := km) (b := a) hx hb hK hP 1 2 rfl rfl hkm (by decide) hft d_md_entry_49 ?_
            refine va_get (D := D) (ci := 2) (v := .int fi) (C := R_pr) (T := F_pr) (N := 10) hx hb hts i_pr hown hK hP 2 rfl rfl 8 (by decide) (hts _ kf_md_63) (fun _ h9 => h9) rfl d_md_entry_50 ?_
            refine lv_istore (lv' := [(4, .int fi), (0, .ref h), (1, .int (nI km)), (2, .int (nI i)), (3, .int w0)]) hx hb d_md_entry_53 hl (by decide) rfl (fun ls hl => ?_)
            refine lv_iconst (v := 0) hx hb d_md_entry_55 (by decide) ?_
            refine lv_istore (lv' := [(5, .int 0), (4, .int fi), (0, .ref h), (1, .int (nI km)), (2, .int (nI i)), (3, .int w0)]) hx hb d_md_entry_56 hl (by decide) rfl (fun ls hl => ?_)
            have hfi : fi = hdI R := sg_hdI hPN.1
            have loop : ∀ (k : Nat) (l1 l2 : List Nat), R = l1 ++ l2 → l1.length + k = i → ∀ ls : Array Slot, lv_has ls 6 [(0, .ref h), (1, .int (nI km)), (2, .int (nI i)), (3, .int w0), (4, .int (hdI l2)), (5, .int (nI l1.length))] → W p l e (rmL 0 0 0) s m args below meth c s.heap [] 0 0 Q (F0 m 58 ls []) := by
              intro k
              induction k with
              | zero =>
                intro l1 l2 eR hk ls hl
                cases l2 with
                | nil =>
                  exact absurd g1 (by rw [eR, List.append_nil]; omega)
                | cons x l2 =>
                  have hl : lv_has ls 6 [(0, .ref h), (1, .int (nI km)), (2, .int (nI i)), (3, .int w0), (4, .int (nI x)), (5, .int (nI l1.length))] := hl
                  have hxR : x ∈ R := by rw [eR]; exact List.mem_append_right _ (List.mem_cons_self ..)
                  have hxn := pa_in hPA hxR
                  have ha : at_ (nI i) L = some (K x, V x) := by
                    unfold at_
                    rw [if_neg (nI_pos (by omega)), nI_clamp (by omega), eL, eR, ← hk, Nat.add_zero]
                    simp [kv]
                  refine lv_iload hx hb d_md_entry_58 (lv_at hl 5 rfl) ?_
                  refine lv_iload_n hx hb d_md_entry_60 rfl (lv_at hl 2 rfl) ?_
                  refine lv_icmp_ge (tgt := 84) hx hb d_md_entry_61 (by decide) (fun _ => ?_) (fun z9 => absurd (nI_le (by omega) (by omega)) z9)
                  refine lv_iload_n hx hb d_md_entry_84 rfl (lv_at hl 3 rfl) ?_
                  refine lv_if_ne (tgt := 104) hx hb d_md_entry_85 (by decide) (fun _ => ?_) (fun z9 => absurd z9 h0)
                  refine lv_aload_n hx hb d_md_entry_104 rfl (lv_at hl 0 rfl) ?_
                  refine va_get (D := D) (ci := 3) (v := .ref r) (C := R_md) (T := F_md) (N := 1) hx hb hts i_md hown hK hP 0 rfl rfl 0 (by decide) (hts _ kf_md_12) (fun _ h9 => h9) rfl d_md_entry_105 ?_
                  refine lv_iload_n hx hb d_md_entry_108 rfl (lv_at hl 1 rfl) ?_
                  refine wa_ald (k := km) (b := a) hx hb hK hP 1 2 rfl rfl hkm (by decide) hft d_md_entry_109 ?_
                  refine va_get (D := D) (ci := 2) (v := .ref qv) (C := R_pr) (T := F_pr) (N := 10) hx hb hts i_pr hown hK hP 2 rfl rfl 2 (by decide) (hts _ kf_md_36) (fun _ h9 => h9) rfl d_md_entry_110 ?_
                  refine lv_iload hx hb d_md_entry_113 (lv_at hl 4 rfl) ?_
                  refine wa_ld (k := x) hx hb hK hP 5 0 rfl rfl hxn.2 hn d_md_entry_115 ?_
                  refine lv_i2l (v := (V x).toInt64) hx hb d_md_entry_116 rfl ?_
                  exact cg_lret (u := ()) hQ hx hb hr hlk hK hP hD hS (by rw [hey, ha, eyo_v h0]) d_md_entry_117
              | succ k ih =>
                intro l1 l2 eR hk ls hl
                cases l2 with
                | nil =>
                  exact absurd g1 (by rw [eR, List.append_nil]; omega)
                | cons x l2 =>
                  have hl : lv_has ls 6 [(0, .ref h), (1, .int (nI km)), (2, .int (nI i)), (3, .int w0), (4, .int (nI x)), (5, .int (nI l1.length))] := hl
                  have hxR : x ∈ R := by rw [eR]; exact List.mem_append_right _ (List.mem_cons_self ..)
                  have hxn := pa_in hPA hxR
                  have sN : N x = hdI l2 := sg_hdI (sg_app.mp (show sg N fi (l1 ++ x :: l2) (-1) by rw [← eR]; exact hPN.1)).2
                  refine lv_iload hx hb d_md_entry_58 (lv_at hl 5 rfl) ?_
                  refine lv_iload_n hx hb d_md_entry_60 rfl (lv_at hl 2 rfl) ?_
                  refine lv_icmp_ge (tgt := 84) hx hb d_md_entry_61 (by decide) (fun z9 => absurd z9 (nI_ge (by omega) (by omega))) (fun _ => ?_)
                  refine lv_aload_n hx hb d_md_entry_64 rfl (lv_at hl 0 rfl) ?_
                  refine va_get (D := D) (ci := 3) (v := .ref r) (C := R_md) (T := F_md) (N := 1) hx hb hts i_md hown hK hP 0 rfl rfl 0 (by decide) (hts _ kf_md_12) (fun _ h9 => h9) rfl d_md_entry_65 ?_
                  refine lv_iload_n hx hb d_md_entry_68 rfl (lv_at hl 1 rfl) ?_
                  refine wa_ald (k := km) (b := a) hx hb hK hP 1 2 rfl rfl hkm (by decide) hft d_md_entry_69 ?_
                  refine va_get (D := D) (ci := 2) (v := .ref qn) (C := R_pr) (T := F_pr) (N := 10) hx hb hts i_pr hown hK hP 2 rfl rfl 4 (by decide) (hts _ kf_md_70) (fun _ h9 => h9) rfl d_md_entry_70 ?_
                  refine lv_iload hx hb d_md_entry_73 (lv_at hl 4 rfl) ?_
                  refine wa_ld (k := x) hx hb hK hP 7 0 rfl rfl hxn.2 hn d_md_entry_75 ?_
                  refine tp_i (y := hdI l2) sN ?_
                  refine lv_istore (lv' := [(4, .int (hdI l2)), (0, .ref h), (1, .int (nI km)), (2, .int (nI i)), (3, .int w0), (5, .int (nI l1.length))]) hx hb d_md_entry_76 hl (by decide) rfl (fun ls hl => ?_)
                  refine lv_iinc (v := nI (l1 ++ [x]).length) (lv' := [(5, .int (nI (l1 ++ [x]).length)), (4, .int (hdI l2)), (0, .ref h), (1, .int (nI km)), (2, .int (nI i)), (3, .int w0)]) hx hb d_md_entry_78 hl (k := 5) rfl (inc_l l1 x) (by decide) rfl (fun ls hl => ?_)
                  refine lv_goto (tgt := 58) hx hb d_md_entry_81 (by decide) ?_
                  exact ih (l1 ++ [x]) l2 (by rw [eR]; simp) (by rw [List.length_append, List.length_cons, List.length_nil]; omega) ls (lv_sub hl [2, 3, 4, 5, 1, 0] rfl)
            rw [hfi] at hl
            exact loop i [] R rfl (by simp) ls (lv_sub hl [2, 3, 4, 5, 1, 0] rfl)
        · refine lv_icmp_eq (tgt := 23) hx hb d_md_entry_16 (by decide) (fun z9 => absurd z9 h1) (fun _ => ?_)
          refine lv_ldc2 hx hb hown (hts _ kk_md_24) d_md_entry_19 ?_
          exact cg_lret (u := ()) hQ hx hb hr hlk hK hP hD hS (by unfold ey; rw [if_pos (Or.inr (fun z9 => z9.elim h0 h1))]) d_md_entry_22
set_option maxRecDepth 100000 in
set_option maxHeartbeats 4000000 in
theorem c_md_entry_x (l : Launch) (D : va_G) (cI cT cP : ClassId) (h r : Nat) (q : Int32) (hq : bad q) (q0 w0 : Int32) : Cg l y_md_entry b_md_entry 6 (some .long) 0 0 0 D (ty3 cI cT cP) [.ref h, .int q, .int q0, .int w0] ([(h, .inr (3, [.ref r]))]) (fun (v : Option Value) (u : Unit) => v = some (.long 1099511627777)) (fun u => [(h, .inr (3, [.ref r]))]) := by
  refine cg_enter rfl (Nat.le_of_ble_eq_true rfl) ?_
  intro p e s m below meth c args hx hb hr hlk hml hown hin hts A hA hK hP hD hS ls hl Q hQ
  have hl : lv_has ls 6 [(0, .ref h), (1, .int q), (2, .int q0), (3, .int w0)] := hl
  have hP : va_P D cls ([(h, .inr (3, [.ref r]))]) s.heap := hP
  have hD : va_D A ([(h, .inr (3, [.ref r]))]) := hD
  have nb : ∀ k, k < 3 → ¬ q = nI k := fun k hk z9 => by
    rw [z9] at hq
    exact hq.elim (nI_pos (by omega)) (nI_ge hk (by decide))
  refine lv_iload_n hx hb d_md_entry_0 rfl (lv_at hl 1 rfl) ?_
  refine lv_iconst (v := 1) hx hb d_md_entry_1 (by decide) ?_
  refine lv_icmp_eq (tgt := 10) hx hb d_md_entry_2 (by decide) (fun z9 => absurd z9 (nb 1 (by decide))) (fun _ => ?_)
  refine lv_iload_n hx hb d_md_entry_5 rfl (lv_at hl 1 rfl) ?_
  refine lv_iconst (v := 2) hx hb d_md_entry_6 (by decide) ?_
  refine lv_icmp_ne (tgt := 19) hx hb d_md_entry_7 (by decide) (fun _ => ?_) (fun z9 => absurd z9 (nb 2 (by decide)))
  refine lv_ldc2 hx hb hown (hts _ kk_md_24) d_md_entry_19 ?_
  exact cg_lret (u := ()) hQ hx hb hr hlk hK hP hD hS rfl d_md_entry_22
