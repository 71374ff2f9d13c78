-- Table: drop, grow, insert, constructor: printed by wip/whole/gen/tb3.py
set_option maxRecDepth 100000 in
set_option maxHeartbeats 4000000 in
/-- drop(x) -/
theorem c_tb_drop (l : Launch) (D : va_G) (cI cT cP : ClassId) (a : Nat) (mv : Int32) (qk qv qb qf qh qc n : Nat) (K V P N G C : Nat → Int32) (fl lm : Int32) (j mm x : Nat) (l1 l2 Fr : List Nat) (bl : Nat → List Nat) (hTA : TA n j mm (l1 ++ x :: l2) Fr) (hTN : TN P N (l1 ++ x :: l2)) (hTH : TH n K G C fl (l1 ++ x :: l2) Fr bl) (hKn : ((l1 ++ x :: l2).map K).Nodup) : Cg l y_tb_drop b_tb_drop 2 (none) 2 0 0 D (ty3 cI cT cP) [.ref a, .int (nI x)] (tx cI a mv (nI (l1 ++ x :: l2).length) qk qv qb qf qh qc n K V P N G C fl lm) (fun (v : Option Value) (u : (Nat → Int32) × (Nat → Int32)) => v = none ∧ ∃ bl', TH n K u.1 u.2 (nI x) (l1 ++ l2) (x :: Fr) bl') (fun u => tx cI a mv (nI (l1 ++ l2).length) qk qv qb qf qh qc n K V (upd P (hd_ 0 l2) (nI (ls_ 0 l1))) (upd N (ls_ 0 l1) (nI (hd_ 0 l2))) u.1 u.2 (nI x) lm) := by
  have hn : n < 2 ^ 31 := (ta_len hTA).2.2
  have et : n = 2 ^ (4 + j) := hTA.1.1
  have ht : 4 + j ≤ 30 := by have := hTA.1.2; omega
  have hxR : x ∈ l1 ++ x :: l2 := List.mem_append_right _ (List.mem_cons_self ..)
  have hxn := ta_in hTA hxR
  have hb1 : ls_ 0 l1 < n := ta_ls hTA rfl
  have hh1 : hd_ 0 l2 < n := ta_hd hTA (l1 := l1 ++ [x]) (by simp)
  obtain ⟨q1, q2, q3⟩ := tn_cut (ta_nd0 hTA) hTN
  have hz : hof n (K x) < n := hof_lt (by have := ta_n hTA; omega) _
  obtain ⟨c1, c2, hc12⟩ := List.append_of_mem ((th_bl hTH hz).mpr ⟨hxR, rfl⟩)
  have hxb : x ≠ ls_ 0 l1 := by
      intro z9
      have h1 := ls_mem 0 l1
      rw [← z9] at h1
      rcases List.mem_cons.mp h1 with h2 | h2
      · omega
      · exact (List.nodup_append.mp (ta_nd hTA)).2.2 x h2 x (List.mem_cons_self ..) rfl
  refine cg_enter rfl (Nat.le_of_ble_eq_true rfl) ?_
  intro p e s m below meth c args hx hb hr hlk hml hown hin hts A hA hK hP hD hS ls hl Q hQ
  have hl : lv_has ls 2 [(0, .ref a), (1, .int (nI x))] := hl
  have hP : va_P D cls (tx cI a mv (nI (l1 ++ x :: l2).length) qk qv qb qf qh qc n K V P N G C fl lm) s.heap := hP
  have hD : va_D A (tx cI a mv (nI (l1 ++ x :: l2).length) qk qv qb qf qh qc n K V P N G C fl lm) := hD
  refine lv_aload_n hx hb d_tb_drop_0 rfl (lv_at hl 0 rfl) ?_
  refine lv_iload_n hx hb d_tb_drop_1 rfl (lv_at hl 1 rfl) ?_
  refine cg_V (hn := 1) (As := [.int (nI x)]) (rest := []) (wr := []) (q0 := 0) (ci := 0) hx hb hml hown hts (c_tb_unhook l D cI cT cP a mv qk qv qb qf qh qc n K V P N G C fl lm j mm _ Fr bl hTA hTH hKn x hxR c1 c2 hc12) km_tb_104 ki_tb_unhook ks_tb_unhook kn_tb kc_tb_unhook (by decide +kernel) rfl ⟨Nat.le_of_ble_eq_true rfl, Nat.le_of_ble_eq_true rfl⟩ hK hP hD hS hA [0, 1, 2, 3, 4, 5, 6] [] rfl (by decide) rfl (by decide) (by decide) rfl rfl hl.1 rfl (Nat.le_of_ble_eq_true rfl) d_tb_drop_2 ⟨Nat.le_refl _, Nat.le_refl _⟩ (fun v u H locs hpost hP hD hS => ?_)
  subst hpost
  refine W.eq (g2 := F0 m 5 ls []) rfl ?_
  have hP : va_P D cls (tx cI a mv (nI (l1 ++ x :: l2).length) qk qv qb qf qh qc n K V P N (cG G C (hof n (K x)) x c1) (cC C x c1) fl lm) H := hP
  have hD : va_D A (tx cI a mv (nI (l1 ++ x :: l2).length) qk qv qb qf qh qc n K V P N (cG G C (hof n (K x)) x c1) (cC C x c1) fl lm) := hD
  refine lv_aload_n hx hb d_tb_drop_5 rfl (lv_at hl 0 rfl) ?_
  refine lv_iload_n hx hb d_tb_drop_6 rfl (lv_at hl 1 rfl) ?_
  refine cg_V (hn := 1) (As := [.int (nI x)]) (rest := []) (wr := []) (q0 := 0) (ci := 0) hx hb hml hown hts (c_tb_unlink l D cI cT cP a mv (nI (l1 ++ x :: l2).length) qk qv qb qf qh qc n K V P N (cG G C (hof n (K x)) x c1) (cC C x c1) fl lm hn x (ls_ 0 l1) (hd_ 0 l2) hxn.2.2 hb1 hh1 q1 q2 hxb) km_tb_107 ki_tb_unlink ks_tb_unlink kn_tb kc_tb_unlink (by decide +kernel) rfl ⟨Nat.le_of_ble_eq_true rfl, Nat.le_of_ble_eq_true rfl⟩ hK hP hD hS hA [0, 1, 2, 3, 4, 5, 6] [] rfl (by decide) rfl (by decide) (by decide) rfl rfl hl.1 rfl (Nat.le_of_ble_eq_true rfl) d_tb_drop_7 ⟨Nat.le_refl _, Nat.le_refl _⟩ (fun v u H locs hpost hP hD hS => ?_)
  subst hpost
  refine W.eq (g2 := F0 m 10 ls []) rfl ?_
  have hP : va_P D cls (tx cI a mv (nI (l1 ++ x :: l2).length) qk qv qb qf qh qc n K V (upd P (hd_ 0 l2) (nI (ls_ 0 l1))) (upd N (ls_ 0 l1) (nI (hd_ 0 l2))) (cG G C (hof n (K x)) x c1) (cC C x c1) fl lm) H := hP
  have hD : va_D A (tx cI a mv (nI (l1 ++ x :: l2).length) qk qv qb qf qh qc n K V (upd P (hd_ 0 l2) (nI (ls_ 0 l1))) (upd N (ls_ 0 l1) (nI (hd_ 0 l2))) (cG G C (hof n (K x)) x c1) (cC C x c1) fl lm) := hD
  refine lv_aload_n hx hb d_tb_drop_10 rfl (lv_at hl 0 rfl) ?_
  refine va_get (D := D) (ci := 0) (v := .ref qc) (C := R_tb) (T := F_tb) (N := 10) hx hb hts i_tb hown hK hP 0 rfl rfl 7 (by decide) (hts _ kf_tb_31) (fun _ h9 => h9) rfl d_tb_drop_11 ?_
  refine lv_iload_n hx hb d_tb_drop_14 rfl (lv_at hl 1 rfl) ?_
  refine lv_aload_n hx hb d_tb_drop_15 rfl (lv_at hl 0 rfl) ?_
  refine va_get (D := D) (ci := 0) (v := .int fl) (C := R_tb) (T := F_tb) (N := 10) hx hb hts i_tb hown hK hP 0 rfl rfl 8 (by decide) (hts _ kf_tb_75) (fun _ h9 => h9) rfl d_tb_drop_16 ?_
  refine wa_st (k := x) (x := fl) hx hb hK hP hD hS 6 0 rfl rfl hxn.2.2 hn d_tb_drop_19 (fun H locs hP hD hS => ?_)
  have hP : va_P D cls (tx cI a mv (nI (l1 ++ x :: l2).length) qk qv qb qf qh qc n K V (upd P (hd_ 0 l2) (nI (ls_ 0 l1))) (upd N (ls_ 0 l1) (nI (hd_ 0 l2))) (cG G C (hof n (K x)) x c1) (upd (cC C x c1) x fl) fl lm) H := hP
  have hD : va_D A (tx cI a mv (nI (l1 ++ x :: l2).length) qk qv qb qf qh qc n K V (upd P (hd_ 0 l2) (nI (ls_ 0 l1))) (upd N (ls_ 0 l1) (nI (hd_ 0 l2))) (cG G C (hof n (K x)) x c1) (upd (cC C x c1) x fl) fl lm) := hD
  refine lv_aload_n hx hb d_tb_drop_20 rfl (lv_at hl 0 rfl) ?_
  refine lv_iload_n hx hb d_tb_drop_21 rfl (lv_at hl 1 rfl) ?_
  refine va_put (D := D) (ci := 0) (v := .int (nI x)) (ty := .int) (C := R_tb) (T := F_tb) (N := 10) hx hb hts i_tb t_tb t_tb_ok n_tb hown hK hP hD hS 0 rfl rfl 8 (by decide) (hts _ kf_tb_75) (fun _ h9 => h9) rfl (by decide +kernel) rfl rfl (Nat.le_of_ble_eq_true rfl) d_tb_drop_22 (fun H locs hP hD hS => ?_)
  have hP : va_P D cls (tx cI a mv (nI (l1 ++ x :: l2).length) qk qv qb qf qh qc n K V (upd P (hd_ 0 l2) (nI (ls_ 0 l1))) (upd N (ls_ 0 l1) (nI (hd_ 0 l2))) (cG G C (hof n (K x)) x c1) (upd (cC C x c1) x fl) (nI x) lm) H := hP
  have hD : va_D A (tx cI a mv (nI (l1 ++ x :: l2).length) qk qv qb qf qh qc n K V (upd P (hd_ 0 l2) (nI (ls_ 0 l1))) (upd N (ls_ 0 l1) (nI (hd_ 0 l2))) (cG G C (hof n (K x)) x c1) (upd (cC C x c1) x fl) (nI x) lm) := hD
  refine lv_aload_n hx hb d_tb_drop_25 rfl (lv_at hl 0 rfl) ?_
  refine lv_dup hx hb d_tb_drop_26 rfl ?_
  refine va_get (D := D) (ci := 0) (v := .int (nI (l1 ++ x :: l2).length)) (C := R_tb) (T := F_tb) (N := 10) hx hb hts i_tb hown hK hP 0 rfl rfl 1 (by decide) (hts _ kf_tb_52) (fun _ h9 => h9) rfl d_tb_drop_27 ?_
  refine lv_iconst (v := 1) hx hb d_tb_drop_30 (by decide) ?_
  refine lv_isub hx hb d_tb_drop_31 ?_
  refine tp_i (y := nI (l1 ++ l2).length) (by rw [show (l1 ++ x :: l2).length = (l1 ++ l2).length + 1 by simp; omega]; exact nI_pred _) ?_
  refine va_put (D := D) (ci := 0) (v := .int (nI (l1 ++ l2).length)) (ty := .int) (C := R_tb) (T := F_tb) (N := 10) hx hb hts i_tb t_tb t_tb_ok n_tb hown hK hP hD hS 0 rfl rfl 1 (by decide) (hts _ kf_tb_52) (fun _ h9 => h9) rfl (by decide +kernel) rfl rfl (Nat.le_of_ble_eq_true rfl) d_tb_drop_32 (fun H locs hP hD hS => ?_)
  have hP : va_P D cls (tx cI a mv (nI (l1 ++ l2).length) qk qv qb qf qh qc n K V (upd P (hd_ 0 l2) (nI (ls_ 0 l1))) (upd N (ls_ 0 l1) (nI (hd_ 0 l2))) (cG G C (hof n (K x)) x c1) (upd (cC C x c1) x fl) (nI x) lm) H := hP
  have hD : va_D A (tx cI a mv (nI (l1 ++ l2).length) qk qv qb qf qh qc n K V (upd P (hd_ 0 l2) (nI (ls_ 0 l1))) (upd N (ls_ 0 l1) (nI (hd_ 0 l2))) (cG G C (hof n (K x)) x c1) (upd (cC C x c1) x fl) (nI x) lm) := hD
  exact cg_vret (u := ((cG G C (hof n (K x)) x c1), upd (cC C x c1) x fl)) hQ hx hb hr hlk hK hP hD hS (⟨rfl, _, th_del (by have := ta_n hTA; omega) hTA.2.2.1 hTH hc12⟩) d_tb_drop_35
theorem blR_s {n : Nat} {K : Nat → Int32} {s h : Nat} : blR n K (s + 1) h = if hof n (K (s + 1)) = h then (s + 1) :: blR n K s h else blR n K s h := by
  unfold blR
  rw [List.range'_concat, List.reverse_append]
  have e : 1 + 1 * s = s + 1 := by omega
  rw [e]
  show List.filter _ ((s + 1) :: (List.range' 1 s).reverse) = _
  by_cases c : hof n (K (s + 1)) = h
  · rw [List.filter_cons_of_pos (by simpa using c), if_pos c]
  · rw [List.filter_cons_of_neg (by simpa using c), if_neg c]
theorem blR_in {n : Nat} {K : Nat → Int32} {s h x : Nat} (hx : x ∈ blR n K s h) : x ≤ s := by
  have h1 := (List.mem_filter.mp hx).1
  have h2 := List.mem_range'_1.mp (List.mem_reverse.mp h1)
  omega
theorem blR_add {n : Nat} {K G C : Nat → Int32} {s : Nat} (hg : ∀ h, h < n → sg C (G h) (blR n K s h) 0) : ∀ h, h < n → sg (upd C (s + 1) (G (hof n (K (s + 1))))) (upd G (hof n (K (s + 1))) (nI (s + 1)) h) (blR n K (s + 1) h) 0 := by
  intro h hh
  have hni : s + 1 ∉ blR n K s h := fun z => absurd (blR_in z) (by omega)
  rw [blR_s]
  by_cases c : hof n (K (s + 1)) = h
  · rw [if_pos c, c, pk_us]
    refine ⟨rfl, ?_⟩
    rw [pk_us]
    exact sg_upd hni (hg h hh)
  · rw [if_neg c, pk_un (fun z => c z.symm)]
    exact sg_upd hni (hg h hh)
theorem th_grow {n j m : Nat} {K G C : Nat → Int32} {R : List Nat} (hTA : TA n j m R []) (hg : ∀ h, h < n → sg C (G h) (blR n K m h) 0) : TH n K G C 0 R [] (blR n K m) := by
  refine ⟨rfl, fun h hh => ⟨hg h hh, List.Perm.filter _ ?_⟩⟩
  refine (List.perm_ext_iff_of_nodup ?_ (ta_nd hTA)).mpr (fun x => ?_)
  · exact (List.reverse_perm _).nodup_iff.mpr List.nodup_range'
  · have h1 := hTA.2.2.2.1 x
    rw [List.append_nil] at h1
    rw [h1, List.mem_reverse, List.mem_range'_1]
    omega
theorem cpy_in {n : Nat} {f : Nat → Int32} {x : Nat} (h : x < n) : cpy n f x = f x := sb_cpy0 h
set_option maxRecDepth 100000 in
set_option maxHeartbeats 4000000 in
/-- grow() -/
theorem c_tb_grow (l : Launch) (D : va_G) (cI cT cP : ClassId) (a : Nat) (mv ct : Int32) (qk qv qb qf qh qc n : Nat) (K V P N G C : Nat → Int32) (fl : Int32) (t mm : Nat) (et : n = 2 ^ t) (ht : 4 ≤ t ∧ t ≤ 10) (hmm : mm < n) : Cg l y_tb_grow b_tb_grow 3 (none) 2 6 (6 * (2 * n)) D (ty3 cI cT cP) [.ref a] (tx cI a mv ct qk qv qb qf qh qc n K V P N G C fl (nI mm)) (fun (v : Option Value) (u : Nat × Nat × Nat × Nat × Nat × Nat × (Nat → Int32) × (Nat → Int32)) => v = none ∧ ∀ h, h < 2 * n → sg u.2.2.2.2.2.2.2 (u.2.2.2.2.2.2.1 h) (blR (2 * n) (cpy n K) mm h) 0) (fun u => tx cI a mv ct u.1 u.2.1 u.2.2.1 u.2.2.2.1 u.2.2.2.2.1 u.2.2.2.2.2.1 (2 * n) (cpy n K) (cpy n V) (cpy n P) (cpy n N) u.2.2.2.2.2.2.1 u.2.2.2.2.2.2.2 fl (nI mm)) := by
  have hn16 : 16 ≤ n ∧ n ≤ 1024 := by
      have h1 : 2 ^ 4 ≤ 2 ^ t := Nat.pow_le_pow_right (by decide) ht.1
      have h2 : 2 ^ t ≤ 2 ^ 10 := Nat.pow_le_pow_right (by decide) ht.2
      omega
  have et2 : 2 * n = 2 ^ (t + 1) := by rw [et, Nat.pow_succ]; omega
  have hn : 2 * n < 2 ^ 31 := by omega
  refine cg_enter rfl (Nat.le_of_ble_eq_true rfl) ?_
  intro p e s m below meth c args hx hb hr hlk hml hown hin hts A hA hK hP hD hS ls hl Q hQ
  have hl : lv_has ls 3 [(0, .ref a)] := hl
  have hP : va_P D cls (tx cI a mv ct qk qv qb qf qh qc n K V P N G C fl (nI mm)) s.heap := hP
  have hD : va_D A (tx cI a mv ct qk qv qb qf qh qc n K V P N G C fl (nI mm)) := hD
  have hP : va_P D cls ([(a, .inr (0, [.int mv, .int ct, .ref qk, .ref qv, .ref qb, .ref qf, .ref qh, .ref qc, .int fl, .int (nI mm)])), (qk, .inl (cI, n, .inl K)), (qv, .inl (cI, n, .inl V)), (qb, .inl (cI, n, .inl P)), (qf, .inl (cI, n, .inl N)), (qh, .inl (cI, n, .inl G)), (qc, .inl (cI, n, .inl C))]) s.heap := hP
  have hD : va_D A ([(a, .inr (0, [.int mv, .int ct, .ref qk, .ref qv, .ref qb, .ref qf, .ref qh, .ref qc, .int fl, .int (nI mm)])), (qk, .inl (cI, n, .inl K)), (qv, .inl (cI, n, .inl V)), (qb, .inl (cI, n, .inl P)), (qf, .inl (cI, n, .inl N)), (qh, .inl (cI, n, .inl G)), (qc, .inl (cI, n, .inl C))]) := hD
  refine lv_aload_n hx hb d_tb_grow_0 rfl (lv_at hl 0 rfl) ?_
  refine va_get (D := D) (ci := 0) (v := .ref qk) (C := R_tb) (T := F_tb) (N := 10) hx hb hts i_tb hown hK hP 0 rfl rfl 2 (by decide) (hts _ kf_tb_15) (fun _ h9 => h9) rfl d_tb_grow_1 ?_
  refine va_alen (v := nI n) hx hb hK hP 1 0 rfl rfl rfl d_tb_grow_4 ?_
  refine lv_iconst (v := 2) hx hb d_tb_grow_5 (by decide) ?_
  refine lv_imul hx hb d_tb_grow_6 ?_
  refine tp_i (y := nI (2 * n)) (by rw [Nat.mul_comm 2 n]; exact pk_mul n 2) ?_
  refine lv_istore_n (lv' := [(1, .int (nI (2 * n))), (0, .ref a)]) hx hb d_tb_grow_7 rfl hl (by decide) rfl (fun ls hl => ?_)
  refine lv_aload_n hx hb d_tb_grow_8 rfl (lv_at hl 1 rfl) ?_
  refine lv_aload_n hx hb d_tb_grow_9 rfl (lv_at hl 1 rfl) ?_
  refine va_get (D := D) (ci := 0) (v := .ref qk) (C := R_tb) (T := F_tb) (N := 10) hx hb hts i_tb hown hK hP 0 rfl rfl 2 (by decide) (hts _ kf_tb_15) (fun _ h9 => h9) rfl d_tb_grow_10 ?_
  refine lv_iload_n hx hb d_tb_grow_13 rfl (lv_at hl 0 rfl) ?_
  refine cg_S (hn := 2) (As := [.ref qk, .int (nI (2 * n))]) (rest := [.ref a]) (wr := [(a, .inr (0, [.int mv, .int ct, .ref qk, .ref qv, .ref qb, .ref qf, .ref qh, .ref qc, .int fl, .int (nI mm)])), (qv, .inl (cI, n, .inl V)), (qb, .inl (cI, n, .inl P)), (qf, .inl (cI, n, .inl N)), (qh, .inl (cI, n, .inl G)), (qc, .inl (cI, n, .inl C))]) hx hb hml hown hts (c_ja_copyOf l D cI cT cP qk n (2 * n) K (by omega) (by omega)) km_tb_110 kt_ja_copyOf kn_ja kc_ja_copyOf (by decide +kernel) rfl ⟨Nat.le_of_ble_eq_true rfl, Nat.le_of_ble_eq_true rfl⟩ hK hP hD hS hA [1] [0, 2, 3, 4, 5, 6] rfl (by decide) rfl (by decide) (by decide) hl.1 rfl (Nat.le_of_ble_eq_true rfl) d_tb_grow_14 ⟨by show _ ≤ 6; omega, by show _ ≤ 6 * (2 * n); omega⟩ (fun v rk H locs hpost hP hD hS => ?_)
  subst hpost
  refine W.eq (g2 := F0 m 17 ls [.ref rk, .ref a]) rfl ?_
  have hP : va_P D cls ([(a, .inr (0, [.int mv, .int ct, .ref qk, .ref qv, .ref qb, .ref qf, .ref qh, .ref qc, .int fl, .int (nI mm)])), (qv, .inl (cI, n, .inl V)), (qb, .inl (cI, n, .inl P)), (qf, .inl (cI, n, .inl N)), (qh, .inl (cI, n, .inl G)), (qc, .inl (cI, n, .inl C)), (qk, .inl (cI, n, .inl K)), (rk, .inl (cI, 2 * n, .inl (cpy n K)))]) H := hP
  have hD : va_D A ([(a, .inr (0, [.int mv, .int ct, .ref qk, .ref qv, .ref qb, .ref qf, .ref qh, .ref qc, .int fl, .int (nI mm)])), (qv, .inl (cI, n, .inl V)), (qb, .inl (cI, n, .inl P)), (qf, .inl (cI, n, .inl N)), (qh, .inl (cI, n, .inl G)), (qc, .inl (cI, n, .inl C)), (qk, .inl (cI, n, .inl K)), (rk, .inl (cI, 2 * n, .inl (cpy n K)))]) := hD
  refine va_put (D := D) (ci := 0) (v := .ref rk) (ty := .array .int) (C := R_tb) (T := F_tb) (N := 10) hx hb hts i_tb t_tb t_tb_ok n_tb hown hK hP hD hS 0 rfl rfl 2 (by decide) (hts _ kf_tb_15) (fun _ h9 => h9) rfl (by decide +kernel) rfl rfl (Nat.le_of_ble_eq_true rfl) d_tb_grow_17 (fun H locs hP hD hS => ?_)
  have hP : va_P D cls ([(a, .inr (0, [.int mv, .int ct, .ref rk, .ref qv, .ref qb, .ref qf, .ref qh, .ref qc, .int fl, .int (nI mm)])), (qv, .inl (cI, n, .inl V)), (qb, .inl (cI, n, .inl P)), (qf, .inl (cI, n, .inl N)), (qh, .inl (cI, n, .inl G)), (qc, .inl (cI, n, .inl C)), (qk, .inl (cI, n, .inl K)), (rk, .inl (cI, 2 * n, .inl (cpy n K)))]) H := hP
  have hD : va_D A ([(a, .inr (0, [.int mv, .int ct, .ref rk, .ref qv, .ref qb, .ref qf, .ref qh, .ref qc, .int fl, .int (nI mm)])), (qv, .inl (cI, n, .inl V)), (qb, .inl (cI, n, .inl P)), (qf, .inl (cI, n, .inl N)), (qh, .inl (cI, n, .inl G)), (qc, .inl (cI, n, .inl C)), (qk, .inl (cI, n, .inl K)), (rk, .inl (cI, 2 * n, .inl (cpy n K)))]) := hD
  refine lv_aload_n hx hb d_tb_grow_20 rfl (lv_at hl 1 rfl) ?_
  refine lv_aload_n hx hb d_tb_grow_21 rfl (lv_at hl 1 rfl) ?_
  refine va_get (D := D) (ci := 0) (v := .ref qv) (C := R_tb) (T := F_tb) (N := 10) hx hb hts i_tb hown hK hP 0 rfl rfl 3 (by decide) (hts _ kf_tb_19) (fun _ h9 => h9) rfl d_tb_grow_22 ?_
  refine lv_iload_n hx hb d_tb_grow_25 rfl (lv_at hl 0 rfl) ?_
  refine cg_S (hn := 2) (As := [.ref qv, .int (nI (2 * n))]) (rest := [.ref a]) (wr := [(a, .inr (0, [.int mv, .int ct, .ref rk, .ref qv, .ref qb, .ref qf, .ref qh, .ref qc, .int fl, .int (nI mm)])), (qb, .inl (cI, n, .inl P)), (qf, .inl (cI, n, .inl N)), (qh, .inl (cI, n, .inl G)), (qc, .inl (cI, n, .inl C)), (qk, .inl (cI, n, .inl K)), (rk, .inl (cI, 2 * n, .inl (cpy n K)))]) hx hb hml hown hts (c_ja_copyOf l D cI cT cP qv n (2 * n) V (by omega) (by omega)) km_tb_110 kt_ja_copyOf kn_ja kc_ja_copyOf (by decide +kernel) rfl ⟨Nat.le_of_ble_eq_true rfl, Nat.le_of_ble_eq_true rfl⟩ hK hP hD hS hA [1] [0, 2, 3, 4, 5, 6, 7] rfl (by decide) rfl (by decide) (by decide) hl.1 rfl (Nat.le_of_ble_eq_true rfl) d_tb_grow_26 ⟨by show _ ≤ 6; omega, by show _ ≤ 6 * (2 * n); omega⟩ (fun v rv H locs hpost hP hD hS => ?_)
  subst hpost
  refine W.eq (g2 := F0 m 29 ls [.ref rv, .ref a]) rfl ?_
  have hP : va_P D cls ([(a, .inr (0, [.int mv, .int ct, .ref rk, .ref qv, .ref qb, .ref qf, .ref qh, .ref qc, .int fl, .int (nI mm)])), (qb, .inl (cI, n, .inl P)), (qf, .inl (cI, n, .inl N)), (qh, .inl (cI, n, .inl G)), (qc, .inl (cI, n, .inl C)), (qk, .inl (cI, n, .inl K)), (rk, .inl (cI, 2 * n, .inl (cpy n K))), (qv, .inl (cI, n, .inl V)), (rv, .inl (cI, 2 * n, .inl (cpy n V)))]) H := hP
  have hD : va_D A ([(a, .inr (0, [.int mv, .int ct, .ref rk, .ref qv, .ref qb, .ref qf, .ref qh, .ref qc, .int fl, .int (nI mm)])), (qb, .inl (cI, n, .inl P)), (qf, .inl (cI, n, .inl N)), (qh, .inl (cI, n, .inl G)), (qc, .inl (cI, n, .inl C)), (qk, .inl (cI, n, .inl K)), (rk, .inl (cI, 2 * n, .inl (cpy n K))), (qv, .inl (cI, n, .inl V)), (rv, .inl (cI, 2 * n, .inl (cpy n V)))]) := hD
  refine va_put (D := D) (ci := 0) (v := .ref rv) (ty := .array .int) (C := R_tb) (T := F_tb) (N := 10) hx hb hts i_tb t_tb t_tb_ok n_tb hown hK hP hD hS 0 rfl rfl 3 (by decide) (hts _ kf_tb_19) (fun _ h9 => h9) rfl (by decide +kernel) rfl rfl (Nat.le_of_ble_eq_true rfl) d_tb_grow_29 (fun H locs hP hD hS => ?_)
  have hP : va_P D cls ([(a, .inr (0, [.int mv, .int ct, .ref rk, .ref rv, .ref qb, .ref qf, .ref qh, .ref qc, .int fl, .int (nI mm)])), (qb, .inl (cI, n, .inl P)), (qf, .inl (cI, n, .inl N)), (qh, .inl (cI, n, .inl G)), (qc, .inl (cI, n, .inl C)), (qk, .inl (cI, n, .inl K)), (rk, .inl (cI, 2 * n, .inl (cpy n K))), (qv, .inl (cI, n, .inl V)), (rv, .inl (cI, 2 * n, .inl (cpy n V)))]) H := hP
  have hD : va_D A ([(a, .inr (0, [.int mv, .int ct, .ref rk, .ref rv, .ref qb, .ref qf, .ref qh, .ref qc, .int fl, .int (nI mm)])), (qb, .inl (cI, n, .inl P)), (qf, .inl (cI, n, .inl N)), (qh, .inl (cI, n, .inl G)), (qc, .inl (cI, n, .inl C)), (qk, .inl (cI, n, .inl K)), (rk, .inl (cI, 2 * n, .inl (cpy n K))), (qv, .inl (cI, n, .inl V)), (rv, .inl (cI, 2 * n, .inl (cpy n V)))]) := hD
  refine lv_aload_n hx hb d_tb_grow_32 rfl (lv_at hl 1 rfl) ?_
  refine lv_aload_n hx hb d_tb_grow_33 rfl (lv_at hl 1 rfl) ?_
  refine va_get (D := D) (ci := 0) (v := .ref qb) (C := R_tb) (T := F_tb) (N := 10) hx hb hts i_tb hown hK hP 0 rfl rfl 4 (by decide) (hts _ kf_tb_22) (fun _ h9 => h9) rfl d_tb_grow_34 ?_
  refine lv_iload_n hx hb d_tb_grow_37 rfl (lv_at hl 0 rfl) ?_
  refine cg_S (hn := 2) (As := [.ref qb, .int (nI (2 * n))]) (rest := [.ref a]) (wr := [(a, .inr (0, [.int mv, .int ct, .ref rk, .ref rv, .ref qb, .ref qf, .ref qh, .ref qc, .int fl, .int (nI mm)])), (qf, .inl (cI, n, .inl N)), (qh, .inl (cI, n, .inl G)), (qc, .inl (cI, n, .inl C)), (qk, .inl (cI, n, .inl K)), (rk, .inl (cI, 2 * n, .inl (cpy n K))), (qv, .inl (cI, n, .inl V)), (rv, .inl (cI, 2 * n, .inl (cpy n V)))]) hx hb hml hown hts (c_ja_copyOf l D cI cT cP qb n (2 * n) P (by omega) (by omega)) km_tb_110 kt_ja_copyOf kn_ja kc_ja_copyOf (by decide +kernel) rfl ⟨Nat.le_of_ble_eq_true rfl, Nat.le_of_ble_eq_true rfl⟩ hK hP hD hS hA [1] [0, 2, 3, 4, 5, 6, 7, 8] rfl (by decide) rfl (by decide) (by decide) hl.1 rfl (Nat.le_of_ble_eq_true rfl) d_tb_grow_38 ⟨by show _ ≤ 6; omega, by show _ ≤ 6 * (2 * n); omega⟩ (fun v rb H locs hpost hP hD hS => ?_)
  subst hpost
  refine W.eq (g2 := F0 m 41 ls [.ref rb, .ref a]) rfl ?_
  have hP : va_P D cls ([(a, .inr (0, [.int mv, .int ct, .ref rk, .ref rv, .ref qb, .ref qf, .ref qh, .ref qc, .int fl, .int (nI mm)])), (qf, .inl (cI, n, .inl N)), (qh, .inl (cI, n, .inl G)), (qc, .inl (cI, n, .inl C)), (qk, .inl (cI, n, .inl K)), (rk, .inl (cI, 2 * n, .inl (cpy n K))), (qv, .inl (cI, n, .inl V)), (rv, .inl (cI, 2 * n, .inl (cpy n V))), (qb, .inl (cI, n, .inl P)), (rb, .inl (cI, 2 * n, .inl (cpy n P)))]) H := hP
  have hD : va_D A ([(a, .inr (0, [.int mv, .int ct, .ref rk, .ref rv, .ref qb, .ref qf, .ref qh, .ref qc, .int fl, .int (nI mm)])), (qf, .inl (cI, n, .inl N)), (qh, .inl (cI, n, .inl G)), (qc, .inl (cI, n, .inl C)), (qk, .inl (cI, n, .inl K)), (rk, .inl (cI, 2 * n, .inl (cpy n K))), (qv, .inl (cI, n, .inl V)), (rv, .inl (cI, 2 * n, .inl (cpy n V))), (qb, .inl (cI, n, .inl P)), (rb, .inl (cI, 2 * n, .inl (cpy n P)))]) := hD
  refine va_put (D := D) (ci := 0) (v := .ref rb) (ty := .array .int) (C := R_tb) (T := F_tb) (N := 10) hx hb hts i_tb t_tb t_tb_ok n_tb hown hK hP hD hS 0 rfl rfl 4 (by decide) (hts _ kf_tb_22) (fun _ h9 => h9) rfl (by decide +kernel) rfl rfl (Nat.le_of_ble_eq_true rfl) d_tb_grow_41 (fun H locs hP hD hS => ?_)
  have hP : va_P D cls ([(a, .inr (0, [.int mv, .int ct, .ref rk, .ref rv, .ref rb, .ref qf, .ref qh, .ref qc, .int fl, .int (nI mm)])), (qf, .inl (cI, n, .inl N)), (qh, .inl (cI, n, .inl G)), (qc, .inl (cI, n, .inl C)), (qk, .inl (cI, n, .inl K)), (rk, .inl (cI, 2 * n, .inl (cpy n K))), (qv, .inl (cI, n, .inl V)), (rv, .inl (cI, 2 * n, .inl (cpy n V))), (qb, .inl (cI, n, .inl P)), (rb, .inl (cI, 2 * n, .inl (cpy n P)))]) H := hP
  have hD : va_D A ([(a, .inr (0, [.int mv, .int ct, .ref rk, .ref rv, .ref rb, .ref qf, .ref qh, .ref qc, .int fl, .int (nI mm)])), (qf, .inl (cI, n, .inl N)), (qh, .inl (cI, n, .inl G)), (qc, .inl (cI, n, .inl C)), (qk, .inl (cI, n, .inl K)), (rk, .inl (cI, 2 * n, .inl (cpy n K))), (qv, .inl (cI, n, .inl V)), (rv, .inl (cI, 2 * n, .inl (cpy n V))), (qb, .inl (cI, n, .inl P)), (rb, .inl (cI, 2 * n, .inl (cpy n P)))]) := hD
  refine lv_aload_n hx hb d_tb_grow_44 rfl (lv_at hl 1 rfl) ?_
  refine lv_aload_n hx hb d_tb_grow_45 rfl (lv_at hl 1 rfl) ?_
  refine va_get (D := D) (ci := 0) (v := .ref qf) (C := R_tb) (T := F_tb) (N := 10) hx hb hts i_tb hown hK hP 0 rfl rfl 5 (by decide) (hts _ kf_tb_25) (fun _ h9 => h9) rfl d_tb_grow_46 ?_
  refine lv_iload_n hx hb d_tb_grow_49 rfl (lv_at hl 0 rfl) ?_
  refine cg_S (hn := 2) (As := [.ref qf, .int (nI (2 * n))]) (rest := [.ref a]) (wr := [(a, .inr (0, [.int mv, .int ct, .ref rk, .ref rv, .ref rb, .ref qf, .ref qh, .ref qc, .int fl, .int (nI mm)])), (qh, .inl (cI, n, .inl G)), (qc, .inl (cI, n, .inl C)), (qk, .inl (cI, n, .inl K)), (rk, .inl (cI, 2 * n, .inl (cpy n K))), (qv, .inl (cI, n, .inl V)), (rv, .inl (cI, 2 * n, .inl (cpy n V))), (qb, .inl (cI, n, .inl P)), (rb, .inl (cI, 2 * n, .inl (cpy n P)))]) hx hb hml hown hts (c_ja_copyOf l D cI cT cP qf n (2 * n) N (by omega) (by omega)) km_tb_110 kt_ja_copyOf kn_ja kc_ja_copyOf (by decide +kernel) rfl ⟨Nat.le_of_ble_eq_true rfl, Nat.le_of_ble_eq_true rfl⟩ hK hP hD hS hA [1] [0, 2, 3, 4, 5, 6, 7, 8, 9] rfl (by decide) rfl (by decide) (by decide) hl.1 rfl (Nat.le_of_ble_eq_true rfl) d_tb_grow_50 ⟨by show _ ≤ 6; omega, by show _ ≤ 6 * (2 * n); omega⟩ (fun v rf H locs hpost hP hD hS => ?_)
  subst hpost
  refine W.eq (g2 := F0 m 53 ls [.ref rf, .ref a]) rfl ?_
  have hP : va_P D cls ([(a, .inr (0, [.int mv, .int ct, .ref rk, .ref rv, .ref rb, .ref qf, .ref qh, .ref qc, .int fl, .int (nI mm)])), (qh, .inl (cI, n, .inl G)), (qc, .inl (cI, n, .inl C)), (qk, .inl (cI, n, .inl K)), (rk, .inl (cI, 2 * n, .inl (cpy n K))), (qv, .inl (cI, n, .inl V)), (rv, .inl (cI, 2 * n, .inl (cpy n V))), (qb, .inl (cI, n, .inl P)), (rb, .inl (cI, 2 * n, .inl (cpy n P))), (qf, .inl (cI, n, .inl N)), (rf, .inl (cI, 2 * n, .inl (cpy n N)))]) H := hP
  have hD : va_D A ([(a, .inr (0, [.int mv, .int ct, .ref rk, .ref rv, .ref rb, .ref qf, .ref qh, .ref qc, .int fl, .int (nI mm)])), (qh, .inl (cI, n, .inl G)), (qc, .inl (cI, n, .inl C)), (qk, .inl (cI, n, .inl K)), (rk, .inl (cI, 2 * n, .inl (cpy n K))), (qv, .inl (cI, n, .inl V)), (rv, .inl (cI, 2 * n, .inl (cpy n V))), (qb, .inl (cI, n, .inl P)), (rb, .inl (cI, 2 * n, .inl (cpy n P))), (qf, .inl (cI, n, .inl N)), (rf, .inl (cI, 2 * n, .inl (cpy n N)))]) := hD
  refine va_put (D := D) (ci := 0) (v := .ref rf) (ty := .array .int) (C := R_tb) (T := F_tb) (N := 10) hx hb hts i_tb t_tb t_tb_ok n_tb hown hK hP hD hS 0 rfl rfl 5 (by decide) (hts _ kf_tb_25) (fun _ h9 => h9) rfl (by decide +kernel) rfl rfl (Nat.le_of_ble_eq_true rfl) d_tb_grow_53 (fun H locs hP hD hS => ?_)
  have hP : va_P D cls ([(a, .inr (0, [.int mv, .int ct, .ref rk, .ref rv, .ref rb, .ref rf, .ref qh, .ref qc, .int fl, .int (nI mm)])), (qh, .inl (cI, n, .inl G)), (qc, .inl (cI, n, .inl C)), (qk, .inl (cI, n, .inl K)), (rk, .inl (cI, 2 * n, .inl (cpy n K))), (qv, .inl (cI, n, .inl V)), (rv, .inl (cI, 2 * n, .inl (cpy n V))), (qb, .inl (cI, n, .inl P)), (rb, .inl (cI, 2 * n, .inl (cpy n P))), (qf, .inl (cI, n, .inl N)), (rf, .inl (cI, 2 * n, .inl (cpy n N)))]) H := hP
  have hD : va_D A ([(a, .inr (0, [.int mv, .int ct, .ref rk, .ref rv, .ref rb, .ref rf, .ref qh, .ref qc, .int fl, .int (nI mm)])), (qh, .inl (cI, n, .inl G)), (qc, .inl (cI, n, .inl C)), (qk, .inl (cI, n, .inl K)), (rk, .inl (cI, 2 * n, .inl (cpy n K))), (qv, .inl (cI, n, .inl V)), (rv, .inl (cI, 2 * n, .inl (cpy n V))), (qb, .inl (cI, n, .inl P)), (rb, .inl (cI, 2 * n, .inl (cpy n P))), (qf, .inl (cI, n, .inl N)), (rf, .inl (cI, 2 * n, .inl (cpy n N)))]) := hD
  refine lv_aload_n hx hb d_tb_grow_56 rfl (lv_at hl 1 rfl) ?_
  refine lv_iload_n hx hb d_tb_grow_57 rfl (lv_at hl 0 rfl) ?_
  refine wa_new (k := 2 * n) hx hb hts hK hP hD hS hA (by omega) (by show _ ≤ 6; omega) (by show _ ≤ 6 * (2 * n); omega) d_tb_grow_58 (fun rh H hP hD hS => ?_)
  have hP : va_P D cls ([(a, .inr (0, [.int mv, .int ct, .ref rk, .ref rv, .ref rb, .ref rf, .ref qh, .ref qc, .int fl, .int (nI mm)])), (qh, .inl (cI, n, .inl G)), (qc, .inl (cI, n, .inl C)), (qk, .inl (cI, n, .inl K)), (rk, .inl (cI, 2 * n, .inl (cpy n K))), (qv, .inl (cI, n, .inl V)), (rv, .inl (cI, 2 * n, .inl (cpy n V))), (qb, .inl (cI, n, .inl P)), (rb, .inl (cI, 2 * n, .inl (cpy n P))), (qf, .inl (cI, n, .inl N)), (rf, .inl (cI, 2 * n, .inl (cpy n N))), (rh, .inl (cI, 2 * n, .inl (fun _ => 0)))]) H := hP
  have hD : va_D A ([(a, .inr (0, [.int mv, .int ct, .ref rk, .ref rv, .ref rb, .ref rf, .ref qh, .ref qc, .int fl, .int (nI mm)])), (qh, .inl (cI, n, .inl G)), (qc, .inl (cI, n, .inl C)), (qk, .inl (cI, n, .inl K)), (rk, .inl (cI, 2 * n, .inl (cpy n K))), (qv, .inl (cI, n, .inl V)), (rv, .inl (cI, 2 * n, .inl (cpy n V))), (qb, .inl (cI, n, .inl P)), (rb, .inl (cI, 2 * n, .inl (cpy n P))), (qf, .inl (cI, n, .inl N)), (rf, .inl (cI, 2 * n, .inl (cpy n N))), (rh, .inl (cI, 2 * n, .inl (fun _ => 0)))]) := hD
  refine va_put (D := D) (ci := 0) (v := .ref rh) (ty := .array .int) (C := R_tb) (T := F_tb) (N := 10) hx hb hts i_tb t_tb t_tb_ok n_tb hown hK hP hD hS 0 rfl rfl 6 (by decide) (hts _ kf_tb_28) (fun _ h9 => h9) rfl (by decide +kernel) rfl rfl (Nat.le_of_ble_eq_true rfl) d_tb_grow_60 (fun H locs hP hD hS => ?_)
  have hP : va_P D cls ([(a, .inr (0, [.int mv, .int ct, .ref rk, .ref rv, .ref rb, .ref rf, .ref rh, .ref qc, .int fl, .int (nI mm)])), (qh, .inl (cI, n, .inl G)), (qc, .inl (cI, n, .inl C)), (qk, .inl (cI, n, .inl K)), (rk, .inl (cI, 2 * n, .inl (cpy n K))), (qv, .inl (cI, n, .inl V)), (rv, .inl (cI, 2 * n, .inl (cpy n V))), (qb, .inl (cI, n, .inl P)), (rb, .inl (cI, 2 * n, .inl (cpy n P))), (qf, .inl (cI, n, .inl N)), (rf, .inl (cI, 2 * n, .inl (cpy n N))), (rh, .inl (cI, 2 * n, .inl (fun _ => 0)))]) H := hP
  have hD : va_D A ([(a, .inr (0, [.int mv, .int ct, .ref rk, .ref rv, .ref rb, .ref rf, .ref rh, .ref qc, .int fl, .int (nI mm)])), (qh, .inl (cI, n, .inl G)), (qc, .inl (cI, n, .inl C)), (qk, .inl (cI, n, .inl K)), (rk, .inl (cI, 2 * n, .inl (cpy n K))), (qv, .inl (cI, n, .inl V)), (rv, .inl (cI, 2 * n, .inl (cpy n V))), (qb, .inl (cI, n, .inl P)), (rb, .inl (cI, 2 * n, .inl (cpy n P))), (qf, .inl (cI, n, .inl N)), (rf, .inl (cI, 2 * n, .inl (cpy n N))), (rh, .inl (cI, 2 * n, .inl (fun _ => 0)))]) := hD
  refine lv_aload_n hx hb d_tb_grow_63 rfl (lv_at hl 1 rfl) ?_
  refine lv_iload_n hx hb d_tb_grow_64 rfl (lv_at hl 0 rfl) ?_
  refine wa_new (k := 2 * n) hx hb hts hK hP hD hS hA (by omega) (by show _ ≤ 6; omega) (by show _ ≤ 6 * (2 * n); omega) d_tb_grow_65 (fun rc H hP hD hS => ?_)
  have hP : va_P D cls ([(a, .inr (0, [.int mv, .int ct, .ref rk, .ref rv, .ref rb, .ref rf, .ref rh, .ref qc, .int fl, .int (nI mm)])), (qh, .inl (cI, n, .inl G)), (qc, .inl (cI, n, .inl C)), (qk, .inl (cI, n, .inl K)), (rk, .inl (cI, 2 * n, .inl (cpy n K))), (qv, .inl (cI, n, .inl V)), (rv, .inl (cI, 2 * n, .inl (cpy n V))), (qb, .inl (cI, n, .inl P)), (rb, .inl (cI, 2 * n, .inl (cpy n P))), (qf, .inl (cI, n, .inl N)), (rf, .inl (cI, 2 * n, .inl (cpy n N))), (rh, .inl (cI, 2 * n, .inl (fun _ => 0))), (rc, .inl (cI, 2 * n, .inl (fun _ => 0)))]) H := hP
  have hD : va_D A ([(a, .inr (0, [.int mv, .int ct, .ref rk, .ref rv, .ref rb, .ref rf, .ref rh, .ref qc, .int fl, .int (nI mm)])), (qh, .inl (cI, n, .inl G)), (qc, .inl (cI, n, .inl C)), (qk, .inl (cI, n, .inl K)), (rk, .inl (cI, 2 * n, .inl (cpy n K))), (qv, .inl (cI, n, .inl V)), (rv, .inl (cI, 2 * n, .inl (cpy n V))), (qb, .inl (cI, n, .inl P)), (rb, .inl (cI, 2 * n, .inl (cpy n P))), (qf, .inl (cI, n, .inl N)), (rf, .inl (cI, 2 * n, .inl (cpy n N))), (rh, .inl (cI, 2 * n, .inl (fun _ => 0))), (rc, .inl (cI, 2 * n, .inl (fun _ => 0)))]) := hD
  refine va_put (D := D) (ci := 0) (v := .ref rc) (ty := .array .int) (C := R_tb) (T := F_tb) (N := 10) hx hb hts i_tb t_tb t_tb_ok n_tb hown hK hP hD hS 0 rfl rfl 7 (by decide) (hts _ kf_tb_31) (fun _ h9 => h9) rfl (by decide +kernel) rfl rfl (Nat.le_of_ble_eq_true rfl) d_tb_grow_67 (fun H locs hP hD hS => ?_)
  have hP : va_P D cls ([(a, .inr (0, [.int mv, .int ct, .ref rk, .ref rv, .ref rb, .ref rf, .ref rh, .ref rc, .int fl, .int (nI mm)])), (qh, .inl (cI, n, .inl G)), (qc, .inl (cI, n, .inl C)), (qk, .inl (cI, n, .inl K)), (rk, .inl (cI, 2 * n, .inl (cpy n K))), (qv, .inl (cI, n, .inl V)), (rv, .inl (cI, 2 * n, .inl (cpy n V))), (qb, .inl (cI, n, .inl P)), (rb, .inl (cI, 2 * n, .inl (cpy n P))), (qf, .inl (cI, n, .inl N)), (rf, .inl (cI, 2 * n, .inl (cpy n N))), (rh, .inl (cI, 2 * n, .inl (fun _ => 0))), (rc, .inl (cI, 2 * n, .inl (fun _ => 0)))]) H := hP
  have hD : va_D A ([(a, .inr (0, [.int mv, .int ct, .ref rk, .ref rv, .ref rb, .ref rf, .ref rh, .ref rc, .int fl, .int (nI mm)])), (qh, .inl (cI, n, .inl G)), (qc, .inl (cI, n, .inl C)), (qk, .inl (cI, n, .inl K)), (rk, .inl (cI, 2 * n, .inl (cpy n K))), (qv, .inl (cI, n, .inl V)), (rv, .inl (cI, 2 * n, .inl (cpy n V))), (qb, .inl (cI, n, .inl P)), (rb, .inl (cI, 2 * n, .inl (cpy n P))), (qf, .inl (cI, n, .inl N)), (rf, .inl (cI, 2 * n, .inl (cpy n N))), (rh, .inl (cI, 2 * n, .inl (fun _ => 0))), (rc, .inl (cI, 2 * n, .inl (fun _ => 0)))]) := hD
  refine lv_iconst (v := 1) hx hb d_tb_grow_70 (by decide) ?_
  refine lv_istore_n (lv' := [(2, .int 1), (1, .int (nI (2 * n))), (0, .ref a)]) hx hb d_tb_grow_71 rfl hl (by decide) rfl (fun ls hl => ?_)
  refine W.widen (k := 6) (n := 6 * (2 * n)) (by omega) (by omega) ?_
  have hP : va_P D cls ([(a, .inr (0, [.int mv, .int ct, .ref rk, .ref rv, .ref rb, .ref rf, .ref rh, .ref rc, .int fl, .int (nI mm)])), (rk, .inl (cI, 2 * n, .inl (cpy n K))), (rv, .inl (cI, 2 * n, .inl (cpy n V))), (rb, .inl (cI, 2 * n, .inl (cpy n P))), (rf, .inl (cI, 2 * n, .inl (cpy n N))), (rh, .inl (cI, 2 * n, .inl (fun _ => 0))), (rc, .inl (cI, 2 * n, .inl (fun _ => 0)))]) H := hP.sub [0, 4, 6, 8, 10, 11, 12] rfl
  have hD : va_D A ([(a, .inr (0, [.int mv, .int ct, .ref rk, .ref rv, .ref rb, .ref rf, .ref rh, .ref rc, .int fl, .int (nI mm)])), (rk, .inl (cI, 2 * n, .inl (cpy n K))), (rv, .inl (cI, 2 * n, .inl (cpy n V))), (rb, .inl (cI, 2 * n, .inl (cpy n P))), (rf, .inl (cI, 2 * n, .inl (cpy n N))), (rh, .inl (cI, 2 * n, .inl (fun _ => 0))), (rc, .inl (cI, 2 * n, .inl (fun _ => 0)))]) := hD.sub [0, 4, 6, 8, 10, 11, 12] (by decide) rfl
  have hP : va_P D cls (tx cI a mv ct rk rv rb rf rh rc (2 * n) (cpy n K) (cpy n V) (cpy n P) (cpy n N) (fun _ => 0) (fun _ => 0) fl (nI mm)) H := hP
  have hD : va_D A (tx cI a mv ct rk rv rb rf rh rc (2 * n) (cpy n K) (cpy n V) (cpy n P) (cpy n N) (fun _ => 0) (fun _ => 0) fl (nI mm)) := hD
  have loop : ∀ (k i : Nat) (G C : Nat → Int32), i + k = mm → (∀ h, h < 2 * n → sg C (G h) (blR (2 * n) (cpy n K) i h) 0) → ∀ (H : Heap) (locs : List Loc), va_P D cls (tx cI a mv ct rk rv rb rf rh rc (2 * n) (cpy n K) (cpy n V) (cpy n P) (cpy n N) G C fl (nI mm)) H → va_D A (tx cI a mv ct rk rv rb rf rh rc (2 * n) (cpy n K) (cpy n V) (cpy n P) (cpy n N) G C fl (nI mm)) → va_S A s.heap H locs → ∀ ls : Array Slot, lv_has ls 3 [(0, .ref a), (1, .int (nI (2 * n))), (2, .int (nI (i + 1)))] → W p l e (rmL 2 6 (6 * (2 * n))) s m args below meth c H locs 6 (6 * (2 * n)) Q (F0 m 72 ls []) := by
    intro k
    induction k with
    | zero =>
      intro i G C hi hg H locs hP hD hS ls hl
      obtain rfl : mm = i := by omega
      refine lv_iload_n hx hb d_tb_grow_72 rfl (lv_at hl 2 rfl) ?_
      refine lv_aload_n hx hb d_tb_grow_73 rfl (lv_at hl 0 rfl) ?_
      refine va_get (D := D) (ci := 0) (v := .int (nI mm)) (C := R_tb) (T := F_tb) (N := 10) hx hb hts i_tb hown hK hP 0 rfl rfl 9 (by decide) (hts _ kf_tb_78) (fun _ h9 => h9) rfl d_tb_grow_74 ?_
      refine lv_icmp_gt (tgt := 91) hx hb d_tb_grow_77 (by decide) (fun _ => ?_) (fun z9 => absurd (nI_lt (by omega) (by omega)) z9)
      exact cg_vret (u := (rk, rv, rb, rf, rh, rc, G, C)) hQ hx hb hr hlk hK hP hD hS (⟨rfl, hg⟩) d_tb_grow_91
    | succ k ih =>
      intro i G C hi hg H locs hP hD hS ls hl
      refine lv_iload_n hx hb d_tb_grow_72 rfl (lv_at hl 2 rfl) ?_
      refine lv_aload_n hx hb d_tb_grow_73 rfl (lv_at hl 0 rfl) ?_
      refine va_get (D := D) (ci := 0) (v := .int (nI mm)) (C := R_tb) (T := F_tb) (N := 10) hx hb hts i_tb hown hK hP 0 rfl rfl 9 (by decide) (hts _ kf_tb_78) (fun _ h9 => h9) rfl d_tb_grow_74 ?_
      refine lv_icmp_gt (tgt := 91) hx hb d_tb_grow_77 (by decide) (fun z9 => absurd z9 (nI_nlt (by omega) (by omega))) (fun _ => ?_)
      refine lv_aload_n hx hb d_tb_grow_80 rfl (lv_at hl 0 rfl) ?_
      refine lv_iload_n hx hb d_tb_grow_81 rfl (lv_at hl 2 rfl) ?_
      refine cg_V (hn := 1) (As := [.int (nI (i + 1))]) (rest := []) (wr := []) (q0 := 0) (ci := 0) hx hb hml hown hts (c_tb_hook l D cI cT cP a mv ct rk rv rb rf rh rc (2 * n) (cpy n K) (cpy n V) (cpy n P) (cpy n N) G C fl (nI mm) hn (t + 1) et2 (by omega) (i + 1) (by omega)) km_tb_98 ki_tb_hook ks_tb_hook kn_tb kc_tb_hook (by decide +kernel) rfl ⟨Nat.le_of_ble_eq_true rfl, Nat.le_of_ble_eq_true rfl⟩ hK hP hD hS hA [0, 1, 2, 3, 4, 5, 6] [] rfl (by decide) rfl (by decide) (by decide) rfl rfl hl.1 rfl (Nat.le_of_ble_eq_true rfl) d_tb_grow_82 ⟨Nat.le_refl _, Nat.le_refl _⟩ (fun v u H locs hpost hP hD hS => ?_)
      subst hpost
      refine W.eq (g2 := F0 m 85 ls []) rfl ?_
      have hP : va_P D cls (tx cI a mv ct rk rv rb rf rh rc (2 * n) (cpy n K) (cpy n V) (cpy n P) (cpy n N) (upd G (hof (2 * n) (cpy n K (i + 1))) (nI (i + 1))) (upd C (i + 1) (G (hof (2 * n) (cpy n K (i + 1))))) fl (nI mm)) H := hP
      have hD : va_D A (tx cI a mv ct rk rv rb rf rh rc (2 * n) (cpy n K) (cpy n V) (cpy n P) (cpy n N) (upd G (hof (2 * n) (cpy n K (i + 1))) (nI (i + 1))) (upd C (i + 1) (G (hof (2 * n) (cpy n K (i + 1))))) fl (nI mm)) := hD
      refine lv_iinc (v := nI (i + 1 + 1)) (lv' := [(2, .int (nI (i + 1 + 1))), (0, .ref a), (1, .int (nI (2 * n)))]) hx hb d_tb_grow_85 hl (k := 2) rfl (nI_1 (i + 1)) (by decide) rfl (fun ls hl => ?_)
      refine lv_goto (tgt := 72) hx hb d_tb_grow_88 (by decide) ?_
      exact ih (i + 1) _ _ (by omega) (blR_add hg) _ _ hP hD hS ls (lv_sub hl [1, 2, 0] rfl)
  exact loop mm 0 _ _ (by omega) (fun h hh => rfl) _ _ hP hD hS ls (lv_sub hl [2, 1, 0] rfl)
