-- Pairs (2): printed by wip/whole/gen/pr2.py
abbrev PB : Type := Nat × Nat × Nat × Nat × Nat × (Nat → Int32) × (Nat → Int32) × (Nat → Int32) × (Nat → Int32) × (Nat → Int32) × Int32 × Nat × Int32 × Int32 × List Nat
/-- a Pairs' cells, its state in a bundle -/
abbrev pw (cI : ClassId) (a j : Nat) (u : PB) : va_W := px cI a u.1 u.2.1 u.2.2.1 u.2.2.2.1 u.2.2.2.2.1 (2 ^ (4 + j)) u.2.2.2.2.2.1 u.2.2.2.2.2.2.1 u.2.2.2.2.2.2.2.1 u.2.2.2.2.2.2.2.2.1 u.2.2.2.2.2.2.2.2.2.1 (nI u.2.2.2.2.2.2.2.2.2.2.2.2.2.2.length) u.2.2.2.2.2.2.2.2.2.2.1 (nI u.2.2.2.2.2.2.2.2.2.2.2.1) u.2.2.2.2.2.2.2.2.2.2.2.2.1 u.2.2.2.2.2.2.2.2.2.2.2.2.2.1
def PL (j : Nat) (L : List (Int32 × Int32)) (u : PB) : Prop := ∃ (Fr Sp : List Nat), PA (2 ^ (4 + j)) j u.2.2.2.2.2.2.2.2.2.2.2.1 u.2.2.2.2.2.2.2.2.2.2.2.2.2.2 Fr ∧ PN u.2.2.2.2.2.2.2.2.1 u.2.2.2.2.2.2.2.2.2.1 u.2.2.2.2.2.2.2.2.2.2.2.2.1 u.2.2.2.2.2.2.2.2.2.2.2.2.2.1 u.2.2.2.2.2.2.2.2.2.2.2.2.2.2 ∧ PS u.2.2.2.2.2.2.1 u.2.2.2.2.2.1 u.2.2.2.2.2.2.2.2.2.2.2.2.2.2 Sp ∧ sg u.2.2.2.2.2.2.2.2.2.1 u.2.2.2.2.2.2.2.2.2.2.1 Fr (-1) ∧ L = kv u.2.2.2.2.2.2.1 u.2.2.2.2.2.2.2.1 u.2.2.2.2.2.2.2.2.2.2.2.2.2.2
def njr (j len : Nat) : Nat := if len = 2 ^ (4 + j) then j + 1 else j
def mcR (j j' : Nat) : Nat := 5 * (j' - j)
def msR (j j' : Nat) : Nat := 5 * 2 ^ (5 + j') - 5 * 2 ^ (5 + j)
theorem rk_upd {K : Nat → Int32} {k k0 : Int32} {p : Nat} {Sp : List Nat} (h : p ∉ Sp) : rk (upd K p k0) k Sp = rk K k Sp := by
  unfold rk
  rw [List.filter_congr (fun x hx => by rw [pk_un (fun z => h (by rw [← z]; exact hx))])]
theorem pw_upd {K : Nat → Int32} {k0 : Int32} {p : Nat} {Sp : List Nat} (h : p ∉ Sp) (hs : Sp.Pairwise (fun x y => K x < K y)) : Sp.Pairwise (fun x y => upd K p k0 x < upd K p k0 y) :=
  hs.imp_of_mem (fun {a b} ha hb q => by rw [pk_un (fun z => h (by rw [← z]; exact ha)), pk_un (fun z => h (by rw [← z]; exact hb))]; exact q)
set_option maxRecDepth 100000 in
set_option maxHeartbeats 4000000 in
/-- delete(p0) -/
theorem c_pr_delete (l : Launch) (D : va_G) (cI cT cP : ClassId) (a qs qk qv qb qn n : Nat) (Z K V P N : Nat → Int32) (fr md fi la : Int32) (j mm p0 : Nat) (l1 l2 Fr Sp : List Nat) (hPA : PA n j mm (l1 ++ p0 :: l2) Fr) (hPN : PN P N fi la (l1 ++ p0 :: l2)) (hPS : PS K Z (l1 ++ p0 :: l2) Sp) (hsF : sg N fr Fr (-1)) : Cg l y_pr_delete b_pr_delete 3 (none) 1 0 0 D (ty3 cI cT cP) [.ref a, .int (nI p0)] (px cI a qs qk qv qb qn n Z K V P N (nI (l1 ++ p0 :: l2).length) fr md fi la) (fun (v : Option Value) (u : (Nat → Int32) × (Nat → Int32) × Int32 × Int32) => v = none ∧ PN u.1 u.2.1 u.2.2.1 u.2.2.2 (l1 ++ l2) ∧ PS K (va_cpy Z Z (rk K (K p0) Sp + 1) (rk K (K p0) Sp) (Sp.length - 1 - rk K (K p0) Sp)) (l1 ++ l2) (Sp.take (rk K (K p0) Sp) ++ Sp.drop ((rk K (K p0) Sp) + 1)) ∧ sg u.2.1 (nI p0) (p0 :: Fr) (-1)) (fun u => px cI a qs qk qv qb qn n (va_cpy Z Z (rk K (K p0) Sp + 1) (rk K (K p0) Sp) (Sp.length - 1 - rk K (K p0) Sp)) K V u.1 u.2.1 (nI (l1 ++ l2).length) (nI p0) md u.2.2.1 u.2.2.2) := by
  have hpn := pa_n hPA
  have hn : n < 2 ^ 31 := by omega
  have hSl : Sp.length = (l1 ++ p0 :: l2).length := hPS.1.length_eq
  have hl12 : Sp.length = (l1 ++ l2).length + 1 := by rw [hSl]; simp; omega
  have hin2 : ∀ x, x ∈ Sp → x < n := fun x hx1 => (pa_in hPA (hPS.1.mem_iff.mp hx1)).2
  have nd := pa_nd hPA
  have hxR : p0 ∈ l1 ++ p0 :: l2 := List.mem_append_right _ (List.mem_cons_self ..)
  have hp0 := (pa_in hPA hxR).2
  have hra := rk_at hPS.2.1 (hPS.1.mem_iff.mpr hxR)
  obtain ⟨q1, q2, q3⟩ := pn_cut nd hPN
  have hp2 : p0 ∉ l1 ++ l2 := by
      have h9 : (p0 :: (l1 ++ l2)).Nodup := List.perm_middle.nodup_iff.mp nd
      exact (List.nodup_cons.mp h9).1
  have hpF : p0 ∉ Fr := fun z9 => (List.nodup_append.mp hPA.2.2.1).2.2 p0 hxR p0 z9 rfl
  refine cg_enter rfl (Nat.le_of_ble_eq_true rfl) ?_
  intro p e s m below meth c args hx hb hr hlk hml hown hin hts A hA hK hP hD hS ls hl Q hQ
  have hl : lv_has ls 3 [(0, .ref a), (1, .int (nI p0))] := hl
  have hP : va_P D cls (px cI a qs qk qv qb qn n Z K V P N (nI (l1 ++ p0 :: l2).length) fr md fi la) s.heap := hP
  have hD : va_D A (px cI a qs qk qv qb qn n Z K V P N (nI (l1 ++ p0 :: l2).length) fr md fi la) := hD
  rw [← hSl] at hP hD
  refine lv_aload_n hx hb d_pr_delete_0 rfl (lv_at hl 0 rfl) ?_
  refine lv_aload_n hx hb d_pr_delete_1 rfl (lv_at hl 0 rfl) ?_
  refine va_get (D := D) (ci := 2) (v := .ref qk) (C := R_pr) (T := F_pr) (N := 10) hx hb hts i_pr hown hK hP 0 rfl rfl 1 (by decide) (hts _ kf_pr_13) (fun _ h9 => h9) rfl d_pr_delete_2 ?_
  refine lv_iload_n hx hb d_pr_delete_5 rfl (lv_at hl 1 rfl) ?_
  refine wa_ld (k := p0) hx hb hK hP 2 0 rfl rfl hp0 hn d_pr_delete_6 ?_
  refine cg_V (hn := 1) (As := [.int (K p0)]) (rest := []) (wr := []) (q0 := 0) (ci := 2) hx hb hml hown hts (c_pr_rankOf l D cI cT cP a qs qk qv qb qn n Z K V P N fr md fi la Sp hPS.2.1 hPS.2.2 hin2 (by omega) (by omega) (K p0)) km_pr_38 ki_pr_rankOf ks_pr_rankOf kn_pr kc_pr_rankOf (by decide +kernel) rfl ⟨Nat.le_of_ble_eq_true rfl, Nat.le_of_ble_eq_true rfl⟩ hK hP hD hS hA [0, 1, 2, 3, 4, 5] [] rfl (by decide) rfl (by decide) (by decide) rfl rfl hl.1 rfl (Nat.le_of_ble_eq_true rfl) d_pr_delete_7 ⟨Nat.zero_le _, Nat.zero_le _⟩ (fun v u H locs hpost hP hD hS => ?_)
  subst hpost
  refine W.eq (g2 := F0 m 10 ls [.int (nI (rk K (K p0) Sp))]) rfl ?_
  have hP : va_P D cls (px cI a qs qk qv qb qn n Z K V P N (nI Sp.length) fr md fi la) H := hP
  have hD : va_D A (px cI a qs qk qv qb qn n Z K V P N (nI Sp.length) fr md fi la) := hD
  refine lv_istore_n (lv' := [(2, .int (nI (rk K (K p0) Sp))), (0, .ref a), (1, .int (nI p0))]) hx hb d_pr_delete_10 rfl hl (by decide) rfl (fun ls hl => ?_)
  refine lv_aload_n hx hb d_pr_delete_11 rfl (lv_at hl 1 rfl) ?_
  refine lv_dup hx hb d_pr_delete_12 rfl ?_
  refine va_get (D := D) (ci := 2) (v := .int (nI Sp.length)) (C := R_pr) (T := F_pr) (N := 10) hx hb hts i_pr hown hK hP 0 rfl rfl 5 (by decide) (hts _ kf_pr_35) (fun _ h9 => h9) rfl d_pr_delete_13 ?_
  refine lv_iconst (v := 1) hx hb d_pr_delete_16 (by decide) ?_
  refine lv_isub hx hb d_pr_delete_17 ?_
  refine tp_i (y := nI (l1 ++ l2).length) (by rw [hl12]; exact nI_pred _) ?_
  refine va_put (D := D) (ci := 2) (v := .int (nI (l1 ++ l2).length)) (ty := .int) (C := R_pr) (T := F_pr) (N := 10) hx hb hts i_pr t_pr t_pr_ok n_pr hown hK hP hD hS 0 rfl rfl 5 (by decide) (hts _ kf_pr_35) (fun _ h9 => h9) rfl (by decide +kernel) rfl rfl (Nat.le_of_ble_eq_true rfl) d_pr_delete_18 (fun H locs hP hD hS => ?_)
  have hP : va_P D cls (px cI a qs qk qv qb qn n Z K V P N (nI (l1 ++ l2).length) fr md fi la) H := hP
  have hD : va_D A (px cI a qs qk qv qb qn n Z K V P N (nI (l1 ++ l2).length) fr md fi la) := hD
  refine lv_aload_n hx hb d_pr_delete_21 rfl (lv_at hl 1 rfl) ?_
  refine va_get (D := D) (ci := 2) (v := .ref qs) (C := R_pr) (T := F_pr) (N := 10) hx hb hts i_pr hown hK hP 0 rfl rfl 0 (by decide) (hts _ kf_pr_7) (fun _ h9 => h9) rfl d_pr_delete_22 ?_
  refine lv_iload_n hx hb d_pr_delete_25 rfl (lv_at hl 0 rfl) ?_
  refine lv_iconst (v := 1) hx hb d_pr_delete_26 (by decide) ?_
  refine lv_iadd hx hb d_pr_delete_27 ?_
  refine tp_i (y := nI ((rk K (K p0) Sp) + 1)) (nI_1 _) ?_
  refine lv_aload_n hx hb d_pr_delete_28 rfl (lv_at hl 1 rfl) ?_
  refine va_get (D := D) (ci := 2) (v := .ref qs) (C := R_pr) (T := F_pr) (N := 10) hx hb hts i_pr hown hK hP 0 rfl rfl 0 (by decide) (hts _ kf_pr_7) (fun _ h9 => h9) rfl d_pr_delete_29 ?_
  refine lv_iload_n hx hb d_pr_delete_32 rfl (lv_at hl 0 rfl) ?_
  refine lv_aload_n hx hb d_pr_delete_33 rfl (lv_at hl 1 rfl) ?_
  refine va_get (D := D) (ci := 2) (v := .int (nI (l1 ++ l2).length)) (C := R_pr) (T := F_pr) (N := 10) hx hb hts i_pr hown hK hP 0 rfl rfl 5 (by decide) (hts _ kf_pr_35) (fun _ h9 => h9) rfl d_pr_delete_34 ?_
  refine lv_iload_n hx hb d_pr_delete_37 rfl (lv_at hl 0 rfl) ?_
  refine lv_isub hx hb d_pr_delete_38 ?_
  refine tp_i (y := nI (Sp.length - 1 - (rk K (K p0) Sp))) (by rw [show Sp.length - 1 - (rk K (K p0) Sp) = (l1 ++ l2).length - (rk K (K p0) Sp) by omega]; exact pk_sub (by omega)) ?_
  refine wa_cpy (n := (Sp.length - 1 - (rk K (K p0) Sp))) (dp := (rk K (K p0) Sp)) (sp := ((rk K (K p0) Sp) + 1)) hx hb hml hl.1 hown hts km_pr_54 hK hP hD hS 1 1 0 rfl rfl rfl (by omega) (by omega) hn hn (Nat.le_of_ble_eq_true rfl) (Nat.le_of_ble_eq_true rfl) d_pr_delete_39 (fun H locs hP hD hS => ?_)
  have hP : va_P D cls (px cI a qs qk qv qb qn n (va_cpy Z Z ((rk K (K p0) Sp) + 1) (rk K (K p0) Sp) (Sp.length - 1 - (rk K (K p0) Sp))) K V P N (nI (l1 ++ l2).length) fr md fi la) H := hP
  have hD : va_D A (px cI a qs qk qv qb qn n (va_cpy Z Z ((rk K (K p0) Sp) + 1) (rk K (K p0) Sp) (Sp.length - 1 - (rk K (K p0) Sp))) K V P N (nI (l1 ++ l2).length) fr md fi la) := hD
  refine lv_aload_n hx hb d_pr_delete_42 rfl (lv_at hl 1 rfl) ?_
  refine lv_iload_n hx hb d_pr_delete_43 rfl (lv_at hl 2 rfl) ?_
  refine cg_V (hn := 1) (As := [.int (nI p0)]) (rest := []) (wr := []) (q0 := 0) (ci := 2) hx hb hml hown hts (c_pr_unlink l D cI cT cP a qs qk qv qb qn n (va_cpy Z Z (rk K (K p0) Sp + 1) (rk K (K p0) Sp) (Sp.length - 1 - rk K (K p0) Sp)) K V P N (nI (l1 ++ l2).length) fr md fi la hn l1 l2 p0 hp0 q1 q2 (fun x hx1 => ⟨(pa_in hPA (List.mem_append_left _ hx1)).2, fun z9 => hp2 (by rw [← z9]; exact List.mem_append_left _ hx1)⟩) (fun x hx1 => (pa_in hPA (List.mem_append_right _ (List.mem_cons_of_mem _ hx1))).2)) km_pr_64 ki_pr_unlink ks_pr_unlink kn_pr kc_pr_unlink (by decide +kernel) rfl ⟨Nat.le_of_ble_eq_true rfl, Nat.le_of_ble_eq_true rfl⟩ hK hP hD hS hA [0, 1, 2, 3, 4, 5] [] rfl (by decide) rfl (by decide) (by decide) rfl rfl hl.1 rfl (Nat.le_of_ble_eq_true rfl) d_pr_delete_44 ⟨Nat.zero_le _, Nat.zero_le _⟩ (fun v u H locs hpost hP hD hS => ?_)
  subst hpost
  refine W.eq (g2 := F0 m 47 ls []) rfl ?_
  have hP : va_P D cls (px cI a qs qk qv qb qn n (va_cpy Z Z (rk K (K p0) Sp + 1) (rk K (K p0) Sp) (Sp.length - 1 - rk K (K p0) Sp)) K V ((cB P la (P p0) l2).1) ((cN N fi (N p0) l1).1) (nI (l1 ++ l2).length) fr md ((cN N fi (N p0) l1).2) ((cB P la (P p0) l2).2)) H := hP
  have hD : va_D A (px cI a qs qk qv qb qn n (va_cpy Z Z (rk K (K p0) Sp + 1) (rk K (K p0) Sp) (Sp.length - 1 - rk K (K p0) Sp)) K V ((cB P la (P p0) l2).1) ((cN N fi (N p0) l1).1) (nI (l1 ++ l2).length) fr md ((cN N fi (N p0) l1).2) ((cB P la (P p0) l2).2)) := hD
  refine lv_aload_n hx hb d_pr_delete_47 rfl (lv_at hl 1 rfl) ?_
  refine va_get (D := D) (ci := 2) (v := .ref qn) (C := R_pr) (T := F_pr) (N := 10) hx hb hts i_pr hown hK hP 0 rfl rfl 4 (by decide) (hts _ kf_pr_22) (fun _ h9 => h9) rfl d_pr_delete_48 ?_
  refine lv_iload_n hx hb d_pr_delete_51 rfl (lv_at hl 2 rfl) ?_
  refine lv_aload_n hx hb d_pr_delete_52 rfl (lv_at hl 1 rfl) ?_
  refine va_get (D := D) (ci := 2) (v := .int fr) (C := R_pr) (T := F_pr) (N := 10) hx hb hts i_pr hown hK hP 0 rfl rfl 6 (by decide) (hts _ kf_pr_25) (fun _ h9 => h9) rfl d_pr_delete_53 ?_
  refine wa_st (k := p0) (x := fr) hx hb hK hP hD hS 5 0 rfl rfl hp0 hn d_pr_delete_56 (fun H locs hP hD hS => ?_)
  have hP : va_P D cls (px cI a qs qk qv qb qn n (va_cpy Z Z (rk K (K p0) Sp + 1) (rk K (K p0) Sp) (Sp.length - 1 - rk K (K p0) Sp)) K V ((cB P la (P p0) l2).1) (upd ((cN N fi (N p0) l1).1) p0 fr) (nI (l1 ++ l2).length) fr md ((cN N fi (N p0) l1).2) ((cB P la (P p0) l2).2)) H := hP
  have hD : va_D A (px cI a qs qk qv qb qn n (va_cpy Z Z (rk K (K p0) Sp + 1) (rk K (K p0) Sp) (Sp.length - 1 - rk K (K p0) Sp)) K V ((cB P la (P p0) l2).1) (upd ((cN N fi (N p0) l1).1) p0 fr) (nI (l1 ++ l2).length) fr md ((cN N fi (N p0) l1).2) ((cB P la (P p0) l2).2)) := hD
  refine lv_aload_n hx hb d_pr_delete_57 rfl (lv_at hl 1 rfl) ?_
  refine lv_iload_n hx hb d_pr_delete_58 rfl (lv_at hl 2 rfl) ?_
  refine va_put (D := D) (ci := 2) (v := .int (nI p0)) (ty := .int) (C := R_pr) (T := F_pr) (N := 10) hx hb hts i_pr t_pr t_pr_ok n_pr hown hK hP hD hS 0 rfl rfl 6 (by decide) (hts _ kf_pr_25) (fun _ h9 => h9) rfl (by decide +kernel) rfl rfl (Nat.le_of_ble_eq_true rfl) d_pr_delete_59 (fun H locs hP hD hS => ?_)
  have hP : va_P D cls (px cI a qs qk qv qb qn n (va_cpy Z Z (rk K (K p0) Sp + 1) (rk K (K p0) Sp) (Sp.length - 1 - rk K (K p0) Sp)) K V ((cB P la (P p0) l2).1) (upd ((cN N fi (N p0) l1).1) p0 fr) (nI (l1 ++ l2).length) (nI p0) md ((cN N fi (N p0) l1).2) ((cB P la (P p0) l2).2)) H := hP
  have hD : va_D A (px cI a qs qk qv qb qn n (va_cpy Z Z (rk K (K p0) Sp + 1) (rk K (K p0) Sp) (Sp.length - 1 - rk K (K p0) Sp)) K V ((cB P la (P p0) l2).1) (upd ((cN N fi (N p0) l1).1) p0 fr) (nI (l1 ++ l2).length) (nI p0) md ((cN N fi (N p0) l1).2) ((cB P la (P p0) l2).2)) := hD
  exact cg_vret (u := ((cB P la (P p0) l2).1, upd (cN N fi (N p0) l1).1 p0 fr, (cN N fi (N p0) l1).2, (cB P la (P p0) l2).2)) hQ hx hb hr hlk hK hP hD hS (⟨rfl, ⟨sg_upd hp2 q3.1, q3.2⟩, ps_del hPS nd, rfl, by
      show sg _ (upd (cN N fi (N p0) l1).1 p0 fr p0) Fr (-1)
      rw [pk_us]
      exact sg_upd hpF (sg_cong (fun x hx1 => cN_out (fun z9 => (List.nodup_append.mp hPA.2.2.1).2.2 x (List.mem_append_left _ z9) x hx1 rfl)) hsF)⟩) d_pr_delete_62
set_option maxRecDepth 100000 in
set_option maxHeartbeats 4000000 in
/-- insert(k, v0) -/
theorem c_pr_insert (l : Launch) (D : va_G) (cI cT cP : ClassId) (a qs qk qv qb qn : Nat) (Z K V P N : Nat → Int32) (fr fi la : Int32) (j mm : Nat) (R Fr Sp : List Nat) (hPA : PA (2 ^ (4 + j)) j mm R Fr) (hPN : PN P N fi la R) (hPS : PS K Z R Sp) (hsF : sg N fr Fr (-1)) (k v0 : Int32) (hk : k ∉ R.map K) (hlen : R.length < 2047) : Cg l y_pr_insert b_pr_insert 5 (none) 3 (mcR j (njr j R.length)) (msR j (njr j R.length)) D (ty3 cI cT cP) [.ref a, .int k, .int v0] (px cI a qs qk qv qb qn (2 ^ (4 + j)) Z K V P N (nI R.length) fr (nI mm) fi la) (fun (v : Option Value) (u : PB) => v = none ∧ PL (njr j R.length) (kv K V R ++ [(k, v0)]) u) (fun u => pw cI a (njr j R.length) u) := by
  have hpn := pa_n hPA
  refine cg_enter rfl (Nat.le_of_ble_eq_true rfl) ?_
  intro p e s m below meth c args hx hb hr hlk hml hown hin hts A hA hK hP hD hS ls hl Q hQ
  have hl : lv_has ls 5 [(0, .ref a), (1, .int k), (2, .int v0)] := hl
  have hP : va_P D cls (px cI a qs qk qv qb qn (2 ^ (4 + j)) Z K V P N (nI R.length) fr (nI mm) fi la) s.heap := hP
  have hD : va_D A (px cI a qs qk qv qb qn (2 ^ (4 + j)) Z K V P N (nI R.length) fr (nI mm) fi la) := hD
  have fin : ∀ (n j2 mm p0 : Nat) (qs qk qv qb qn : Nat) (Z K2 V2 P N : Nat → Int32) (fr fi la : Int32) (Fr Sp : List Nat), PA n j2 mm (R ++ [p0]) Fr → PN P N fi la R → PS K2 Z R Sp → sg N fr Fr (-1) → k ∉ R.map K2 → kv K V R = kv K2 V2 R → j2 = njr j R.length → ∀ (H : Heap) (locs : List Loc), va_P D cls (px cI a qs qk qv qb qn n Z K2 V2 P N (nI R.length) fr (nI mm) fi la) H → va_D A (px cI a qs qk qv qb qn n Z K2 V2 P N (nI R.length) fr (nI mm) fi la) → va_S A s.heap H locs → ∀ ls : Array Slot, lv_has ls 5 [(0, .ref a), (1, .int k), (2, .int v0), (3, .int (nI p0))] → W p l e (rmL 3 (mcR j (njr j R.length)) (msR j (njr j R.length))) s m args below meth c H locs (mcR j (njr j R.length)) (msR j (njr j R.length)) Q (F0 m 53 ls []) := by
    clear hP hD hS hPA hPN hPS hsF hk hl hpn
    intro n j2 mm p0 qs qk qv qb qn Z K2 V2 P N fr fi la Fr Sp hPA hPN hPS hsF hk ekv ej H locs hP hD hS ls hl
    have hpn := pa_n hPA
    have hn : n < 2 ^ 31 := by omega
    have hSl : Sp.length = R.length := hPS.1.length_eq
    have hRp : R.length + 1 ≤ n := by
      have h1 := hpn.2.2.2
      rw [List.length_append] at h1
      simp only [List.length_cons, List.length_nil] at h1
      omega
    have hp0 := (pa_in hPA (List.mem_append_right _ (List.mem_cons_self ..) : p0 ∈ R ++ [p0])).2
    have ndR : R.Nodup := (List.nodup_append.mp (pa_nd hPA)).1
    have hpR : p0 ∉ R := fun z9 => (List.nodup_append.mp (pa_nd hPA)).2.2 p0 z9 p0 (List.mem_cons_self ..) rfl
    have hpS : p0 ∉ Sp := fun z9 => hpR (hPS.1.mem_iff.mp z9)
    have hin2 : ∀ x, x ∈ Sp → x < n := fun x hx1 => (pa_in hPA (List.mem_append_left _ (hPS.1.mem_iff.mp hx1))).2
    have hpF : p0 ∉ Fr := fun z9 => (List.nodup_append.mp hPA.2.2.1).2.2 p0 (List.mem_append_right _ (List.mem_cons_self ..)) p0 z9 rfl
    obtain ⟨ela, q5⟩ := pn_add ndR hpR hPN
    subst ela
    have hps2 := ps_add (k := k) hPS hpR hk
    have hrl := rk_le (K := K2) (k := k) (Sp := Sp)
    have et := hPA.1.1
    refine lv_aload_n hx hb d_pr_insert_53 rfl (lv_at hl 0 rfl) ?_
    refine va_get (D := D) (ci := 2) (v := .ref qk) (C := R_pr) (T := F_pr) (N := 10) hx hb hts i_pr hown hK hP 0 rfl rfl 1 (by decide) (hts _ kf_pr_13) (fun _ h9 => h9) rfl d_pr_insert_54 ?_
    refine lv_iload_n hx hb d_pr_insert_57 rfl (lv_at hl 3 rfl) ?_
    refine lv_iload_n hx hb d_pr_insert_58 rfl (lv_at hl 1 rfl) ?_
    refine wa_st (k := p0) (x := k) hx hb hK hP hD hS 2 0 rfl rfl hp0 hn d_pr_insert_59 (fun H locs hP hD hS => ?_)
    have hP : va_P D cls (px cI a qs qk qv qb qn n Z (upd K2 p0 k) V2 P N (nI R.length) fr (nI mm) fi (lsI R)) H := hP
    have hD : va_D A (px cI a qs qk qv qb qn n Z (upd K2 p0 k) V2 P N (nI R.length) fr (nI mm) fi (lsI R)) := hD
    refine lv_aload_n hx hb d_pr_insert_60 rfl (lv_at hl 0 rfl) ?_
    refine va_get (D := D) (ci := 2) (v := .ref qv) (C := R_pr) (T := F_pr) (N := 10) hx hb hts i_pr hown hK hP 0 rfl rfl 2 (by decide) (hts _ kf_pr_16) (fun _ h9 => h9) rfl d_pr_insert_61 ?_
    refine lv_iload_n hx hb d_pr_insert_64 rfl (lv_at hl 3 rfl) ?_
    refine lv_iload_n hx hb d_pr_insert_65 rfl (lv_at hl 2 rfl) ?_
    refine wa_st (k := p0) (x := v0) hx hb hK hP hD hS 3 0 rfl rfl hp0 hn d_pr_insert_66 (fun H locs hP hD hS => ?_)
    have hP : va_P D cls (px cI a qs qk qv qb qn n Z (upd K2 p0 k) (upd V2 p0 v0) P N (nI R.length) fr (nI mm) fi (lsI R)) H := hP
    have hD : va_D A (px cI a qs qk qv qb qn n Z (upd K2 p0 k) (upd V2 p0 v0) P N (nI R.length) fr (nI mm) fi (lsI R)) := hD
    refine lv_aload_n hx hb d_pr_insert_67 rfl (lv_at hl 0 rfl) ?_
    refine lv_iload_n hx hb d_pr_insert_68 rfl (lv_at hl 1 rfl) ?_
    rw [← hSl] at hP hD
    refine cg_V (hn := 1) (As := [.int k]) (rest := []) (wr := []) (q0 := 0) (ci := 2) hx hb hml hown hts (c_pr_rankOf l D cI cT cP a qs qk qv qb qn n Z (upd K2 p0 k) (upd V2 p0 v0) P N fr (nI mm) fi (lsI R) Sp (pw_upd hpS hPS.2.1) hPS.2.2 hin2 (by omega) (by omega) k) km_pr_38 ki_pr_rankOf ks_pr_rankOf kn_pr kc_pr_rankOf (by decide +kernel) rfl ⟨Nat.le_of_ble_eq_true rfl, Nat.le_of_ble_eq_true rfl⟩ hK hP hD hS hA [0, 1, 2, 3, 4, 5] [] rfl (by decide) rfl (by decide) (by decide) rfl rfl hl.1 rfl (Nat.le_of_ble_eq_true rfl) d_pr_insert_69 ⟨Nat.le_refl _, Nat.le_refl _⟩ (fun v u H locs hpost hP hD hS => ?_)
    subst hpost
    rw [rk_upd hpS]
    refine W.eq (g2 := F0 m 72 ls [.int (nI (rk K2 k Sp))]) rfl ?_
    have hP : va_P D cls (px cI a qs qk qv qb qn n Z (upd K2 p0 k) (upd V2 p0 v0) P N (nI Sp.length) fr (nI mm) fi (lsI R)) H := hP
    have hD : va_D A (px cI a qs qk qv qb qn n Z (upd K2 p0 k) (upd V2 p0 v0) P N (nI Sp.length) fr (nI mm) fi (lsI R)) := hD
    refine lv_istore (lv' := [(4, .int (nI (rk K2 k Sp))), (0, .ref a), (1, .int k), (2, .int v0), (3, .int (nI p0))]) hx hb d_pr_insert_72 hl (by decide) rfl (fun ls hl => ?_)
    refine lv_aload_n hx hb d_pr_insert_74 rfl (lv_at hl 1 rfl) ?_
    refine va_get (D := D) (ci := 2) (v := .ref qs) (C := R_pr) (T := F_pr) (N := 10) hx hb hts i_pr hown hK hP 0 rfl rfl 0 (by decide) (hts _ kf_pr_7) (fun _ h9 => h9) rfl d_pr_insert_75 ?_
    refine lv_iload hx hb d_pr_insert_78 (lv_at hl 0 rfl) ?_
    refine lv_aload_n hx hb d_pr_insert_80 rfl (lv_at hl 1 rfl) ?_
    refine va_get (D := D) (ci := 2) (v := .ref qs) (C := R_pr) (T := F_pr) (N := 10) hx hb hts i_pr hown hK hP 0 rfl rfl 0 (by decide) (hts _ kf_pr_7) (fun _ h9 => h9) rfl d_pr_insert_81 ?_
    refine lv_iload hx hb d_pr_insert_84 (lv_at hl 0 rfl) ?_
    refine lv_iconst (v := 1) hx hb d_pr_insert_86 (by decide) ?_
    refine lv_iadd hx hb d_pr_insert_87 ?_
    refine tp_i (y := nI ((rk K2 k Sp) + 1)) (nI_1 _) ?_
    refine lv_aload_n hx hb d_pr_insert_88 rfl (lv_at hl 1 rfl) ?_
    refine va_get (D := D) (ci := 2) (v := .int (nI Sp.length)) (C := R_pr) (T := F_pr) (N := 10) hx hb hts i_pr hown hK hP 0 rfl rfl 5 (by decide) (hts _ kf_pr_35) (fun _ h9 => h9) rfl d_pr_insert_89 ?_
    refine lv_iload hx hb d_pr_insert_92 (lv_at hl 0 rfl) ?_
    refine lv_isub hx hb d_pr_insert_94 ?_
    refine tp_i (y := nI (Sp.length - (rk K2 k Sp))) (pk_sub (by omega)) ?_
    refine wa_cpy (n := (Sp.length - (rk K2 k Sp))) (dp := ((rk K2 k Sp) + 1)) (sp := (rk K2 k Sp)) hx hb hml hl.1 hown hts km_pr_54 hK hP hD hS 1 1 0 rfl rfl rfl (by omega) (by omega) hn hn (Nat.le_of_ble_eq_true rfl) (Nat.le_of_ble_eq_true rfl) d_pr_insert_95 (fun H locs hP hD hS => ?_)
    have hP : va_P D cls (px cI a qs qk qv qb qn n (va_cpy Z Z (rk K2 k Sp) ((rk K2 k Sp) + 1) (Sp.length - (rk K2 k Sp))) (upd K2 p0 k) (upd V2 p0 v0) P N (nI Sp.length) fr (nI mm) fi (lsI R)) H := hP
    have hD : va_D A (px cI a qs qk qv qb qn n (va_cpy Z Z (rk K2 k Sp) ((rk K2 k Sp) + 1) (Sp.length - (rk K2 k Sp))) (upd K2 p0 k) (upd V2 p0 v0) P N (nI Sp.length) fr (nI mm) fi (lsI R)) := hD
    refine lv_aload_n hx hb d_pr_insert_98 rfl (lv_at hl 1 rfl) ?_
    refine va_get (D := D) (ci := 2) (v := .ref qs) (C := R_pr) (T := F_pr) (N := 10) hx hb hts i_pr hown hK hP 0 rfl rfl 0 (by decide) (hts _ kf_pr_7) (fun _ h9 => h9) rfl d_pr_insert_99 ?_
    refine lv_iload hx hb d_pr_insert_102 (lv_at hl 0 rfl) ?_
    refine lv_iload_n hx hb d_pr_insert_104 rfl (lv_at hl 4 rfl) ?_
    refine wa_st (k := rk K2 k Sp) (x := (nI p0)) hx hb hK hP hD hS 1 0 rfl rfl (by omega) hn d_pr_insert_105 (fun H locs hP hD hS => ?_)
    have hP : va_P D cls (px cI a qs qk qv qb qn n (upd (va_cpy Z Z (rk K2 k Sp) ((rk K2 k Sp) + 1) (Sp.length - (rk K2 k Sp))) (rk K2 k Sp) (nI p0)) (upd K2 p0 k) (upd V2 p0 v0) P N (nI Sp.length) fr (nI mm) fi (lsI R)) H := hP
    have hD : va_D A (px cI a qs qk qv qb qn n (upd (va_cpy Z Z (rk K2 k Sp) ((rk K2 k Sp) + 1) (Sp.length - (rk K2 k Sp))) (rk K2 k Sp) (nI p0)) (upd K2 p0 k) (upd V2 p0 v0) P N (nI Sp.length) fr (nI mm) fi (lsI R)) := hD
    refine lv_aload_n hx hb d_pr_insert_106 rfl (lv_at hl 1 rfl) ?_
    refine lv_dup hx hb d_pr_insert_107 rfl ?_
    refine va_get (D := D) (ci := 2) (v := .int (nI Sp.length)) (C := R_pr) (T := F_pr) (N := 10) hx hb hts i_pr hown hK hP 0 rfl rfl 5 (by decide) (hts _ kf_pr_35) (fun _ h9 => h9) rfl d_pr_insert_108 ?_
    refine lv_iconst (v := 1) hx hb d_pr_insert_111 (by decide) ?_
    refine lv_iadd hx hb d_pr_insert_112 ?_
    refine tp_i (y := nI (R ++ [p0]).length) (by rw [hSl, List.length_append]; exact nI_1 _) ?_
    refine va_put (D := D) (ci := 2) (v := .int (nI (R ++ [p0]).length)) (ty := .int) (C := R_pr) (T := F_pr) (N := 10) hx hb hts i_pr t_pr t_pr_ok n_pr hown hK hP hD hS 0 rfl rfl 5 (by decide) (hts _ kf_pr_35) (fun _ h9 => h9) rfl (by decide +kernel) rfl rfl (Nat.le_of_ble_eq_true rfl) d_pr_insert_113 (fun H locs hP hD hS => ?_)
    have hP : va_P D cls (px cI a qs qk qv qb qn n (upd (va_cpy Z Z (rk K2 k Sp) ((rk K2 k Sp) + 1) (Sp.length - (rk K2 k Sp))) (rk K2 k Sp) (nI p0)) (upd K2 p0 k) (upd V2 p0 v0) P N (nI (R ++ [p0]).length) fr (nI mm) fi (lsI R)) H := hP
    have hD : va_D A (px cI a qs qk qv qb qn n (upd (va_cpy Z Z (rk K2 k Sp) ((rk K2 k Sp) + 1) (Sp.length - (rk K2 k Sp))) (rk K2 k Sp) (nI p0)) (upd K2 p0 k) (upd V2 p0 v0) P N (nI (R ++ [p0]).length) fr (nI mm) fi (lsI R)) := hD
    refine lv_aload_n hx hb d_pr_insert_116 rfl (lv_at hl 1 rfl) ?_
    refine lv_iload_n hx hb d_pr_insert_117 rfl (lv_at hl 4 rfl) ?_
    refine cg_V (hn := 1) (As := [.int (nI p0)]) (rest := []) (wr := []) (q0 := 0) (ci := 2) hx hb hml hown hts (c_pr_link l D cI cT cP a qs qk qv qb qn n (upd (va_cpy Z Z (rk K2 k Sp) ((rk K2 k Sp) + 1) (Sp.length - (rk K2 k Sp))) (rk K2 k Sp) (nI p0)) (upd K2 p0 k) (upd V2 p0 v0) P N (nI (R ++ [p0]).length) fr (nI mm) fi hn R (fun x hx1 => (pa_in hPA (List.mem_append_left _ hx1)).2) p0 hp0) km_pr_60 ki_pr_link ks_pr_link kn_pr kc_pr_link (by decide +kernel) rfl ⟨Nat.le_of_ble_eq_true rfl, Nat.le_of_ble_eq_true rfl⟩ hK hP hD hS hA [0, 1, 2, 3, 4, 5] [] rfl (by decide) rfl (by decide) (by decide) rfl rfl hl.1 rfl (Nat.le_of_ble_eq_true rfl) d_pr_insert_118 ⟨Nat.le_refl _, Nat.le_refl _⟩ (fun v u H locs hpost hP hD hS => ?_)
    subst hpost
    refine W.eq (g2 := F0 m 121 ls []) rfl ?_
    have hP : va_P D cls (px cI a qs qk qv qb qn n (upd (va_cpy Z Z (rk K2 k Sp) ((rk K2 k Sp) + 1) (Sp.length - (rk K2 k Sp))) (rk K2 k Sp) (nI p0)) (upd K2 p0 k) (upd V2 p0 v0) (upd P p0 (lsI R)) ((cL N fi (-1) p0 R).1) (nI (R ++ [p0]).length) fr (nI mm) ((cL N fi (-1) p0 R).2) (nI p0)) H := hP
    have hD : va_D A (px cI a qs qk qv qb qn n (upd (va_cpy Z Z (rk K2 k Sp) ((rk K2 k Sp) + 1) (Sp.length - (rk K2 k Sp))) (rk K2 k Sp) (nI p0)) (upd K2 p0 k) (upd V2 p0 v0) (upd P p0 (lsI R)) ((cL N fi (-1) p0 R).1) (nI (R ++ [p0]).length) fr (nI mm) ((cL N fi (-1) p0 R).2) (nI p0)) := hD
    subst ej
    subst et
    have hkv : kv K V R ++ [(k, v0)] = kv (upd K2 p0 k) (upd V2 p0 v0) (R ++ [p0]) := by
      show _ = List.map _ (R ++ [p0])
      rw [List.map_append, ekv]
      congr 1
      · exact List.map_congr_left (fun y hy => by rw [pk_un (fun z9 => hpR (by rw [← z9]; exact hy)), pk_un (fun z9 => hpR (by rw [← z9]; exact hy))])
      · show [(k, v0)] = [(upd K2 p0 k p0, upd V2 p0 v0 p0)]
        rw [pk_us, pk_us]
    exact cg_vret (u := (qs, qk, qv, qb, qn, (upd (va_cpy Z Z (rk K2 k Sp) ((rk K2 k Sp) + 1) (Sp.length - (rk K2 k Sp))) (rk K2 k Sp) (nI p0)), (upd K2 p0 k), (upd V2 p0 v0), upd P p0 (lsI R), (cL N fi (-1) p0 R).1, fr, mm, (cL N fi (-1) p0 R).2, nI p0, R ++ [p0])) hQ hx hb hr hlk hK hP hD hS (⟨rfl, Fr, _, hPA, q5, hps2, sg_cong (fun x hx1 => cL_out (fun z9 => (List.nodup_append.mp hPA.2.2.1).2.2 x (List.mem_append_left _ z9) x hx1 rfl) (fun z9 => hpF (by rw [← z9]; exact hx1))) hsF, hkv⟩) d_pr_insert_121
  cases Fr with
  | cons p0 Fr =>
    have efr : fr = nI p0 := hsF.1
    subst efr
    have hp0 := (pa_inF hPA (List.mem_cons_self ..)).2
    have hn : 2 ^ (4 + j) < 2 ^ 31 := by omega
    have hlF := hPA.2.2.2.2
    simp only [List.length_cons] at hlF
    refine lv_aload_n hx hb d_pr_insert_0 rfl (lv_at hl 0 rfl) ?_
    refine va_get (D := D) (ci := 2) (v := .int (nI p0)) (C := R_pr) (T := F_pr) (N := 10) hx hb hts i_pr hown hK hP 0 rfl rfl 6 (by decide) (hts _ kf_pr_25) (fun _ h9 => h9) rfl d_pr_insert_1 ?_
    refine lv_istore_n (lv' := [(3, .int (nI p0)), (0, .ref a), (1, .int k), (2, .int v0)]) hx hb d_pr_insert_4 rfl hl (by decide) rfl (fun ls hl => ?_)
    refine lv_iload_n hx hb d_pr_insert_5 rfl (lv_at hl 0 rfl) ?_
    refine lv_if_lt (tgt := 22) hx hb d_pr_insert_6 (by decide) (fun z9 => absurd z9 (nI_pos (by omega))) (fun _ => ?_)
    refine lv_aload_n hx hb d_pr_insert_9 rfl (lv_at hl 1 rfl) ?_
    refine lv_aload_n hx hb d_pr_insert_10 rfl (lv_at hl 1 rfl) ?_
    refine va_get (D := D) (ci := 2) (v := .ref qn) (C := R_pr) (T := F_pr) (N := 10) hx hb hts i_pr hown hK hP 0 rfl rfl 4 (by decide) (hts _ kf_pr_22) (fun _ h9 => h9) rfl d_pr_insert_11 ?_
    refine lv_iload_n hx hb d_pr_insert_14 rfl (lv_at hl 0 rfl) ?_
    refine wa_ld (k := p0) hx hb hK hP 5 0 rfl rfl hp0 hn d_pr_insert_15 ?_
    refine va_put (D := D) (ci := 2) (v := .int (N p0)) (ty := .int) (C := R_pr) (T := F_pr) (N := 10) hx hb hts i_pr t_pr t_pr_ok n_pr hown hK hP hD hS 0 rfl rfl 6 (by decide) (hts _ kf_pr_25) (fun _ h9 => h9) rfl (by decide +kernel) rfl rfl (Nat.le_of_ble_eq_true rfl) d_pr_insert_16 (fun H locs hP hD hS => ?_)
    have hP : va_P D cls (px cI a qs qk qv qb qn (2 ^ (4 + j)) Z K V P N (nI R.length) (N p0) (nI mm) fi la) H := hP
    have hD : va_D A (px cI a qs qk qv qb qn (2 ^ (4 + j)) Z K V P N (nI R.length) (N p0) (nI mm) fi la) := hD
    refine lv_goto (tgt := 53) hx hb d_pr_insert_19 (by decide) ?_
    refine W.widen (k := mcR j (njr j R.length)) (n := msR j (njr j R.length)) (Nat.zero_le _) (Nat.zero_le _) ?_
    exact fin _ j mm p0 qs qk qv qb qn Z K V P N (N p0) fi la Fr Sp (pa_take hPA) hPN hPS hsF.2 hk rfl (by unfold njr; rw [if_neg (by omega)]) _ _ hP hD hS ls (lv_sub hl [1, 2, 3, 0] rfl)
  | nil =>
    have efr : fr = -1 := hsF
    subst efr
    have hn : 2 ^ (4 + j) < 2 ^ 31 := by omega
    have hlF := hPA.2.2.2.2
    simp only [List.length_nil] at hlF
    refine lv_aload_n hx hb d_pr_insert_0 rfl (lv_at hl 0 rfl) ?_
    refine va_get (D := D) (ci := 2) (v := .int (-1)) (C := R_pr) (T := F_pr) (N := 10) hx hb hts i_pr hown hK hP 0 rfl rfl 6 (by decide) (hts _ kf_pr_25) (fun _ h9 => h9) rfl d_pr_insert_1 ?_
    refine lv_istore_n (lv' := [(3, .int (-1)), (0, .ref a), (1, .int k), (2, .int v0)]) hx hb d_pr_insert_4 rfl hl (by decide) rfl (fun ls hl => ?_)
    refine lv_iload_n hx hb d_pr_insert_5 rfl (lv_at hl 0 rfl) ?_
    refine lv_if_lt (tgt := 22) hx hb d_pr_insert_6 (by decide) (fun _ => ?_) (fun z9 => absurd m1_neg z9)
    refine lv_aload_n hx hb d_pr_insert_22 rfl (lv_at hl 1 rfl) ?_
    refine va_get (D := D) (ci := 2) (v := .int (nI mm)) (C := R_pr) (T := F_pr) (N := 10) hx hb hts i_pr hown hK hP 0 rfl rfl 7 (by decide) (hts _ kf_pr_42) (fun _ h9 => h9) rfl d_pr_insert_23 ?_
    refine lv_aload_n hx hb d_pr_insert_26 rfl (lv_at hl 1 rfl) ?_
    refine va_get (D := D) (ci := 2) (v := .ref qk) (C := R_pr) (T := F_pr) (N := 10) hx hb hts i_pr hown hK hP 0 rfl rfl 1 (by decide) (hts _ kf_pr_13) (fun _ h9 => h9) rfl d_pr_insert_27 ?_
    refine va_alen (v := nI (2 ^ (4 + j))) hx hb hK hP 2 0 rfl rfl rfl d_pr_insert_30 ?_
    by_cases hmn : mm = 2 ^ (4 + j)
    · have hj7 : j < 7 := by
        have h7 := hPA.1.2
        rcases Nat.lt_or_ge j 7 with h | h
        · exact h
        · have : j = 7 := by omega
          subst this
          omega
      have enj : njr j R.length = j + 1 := by unfold njr; rw [if_pos (by omega)]
      have h1024 : 2 ^ (4 + j) ≤ 2 ^ 10 := Nat.pow_le_pow_right (by decide) (by omega)
      have hmc : mcR j (njr j R.length) = 5 := by rw [enj]; unfold mcR; omega
      have hms : msR j (njr j R.length) = 5 * (2 * 2 ^ (4 + j)) := by
        rw [enj]
        unfold msR
        have e1 : 2 ^ (5 + (j + 1)) = 4 * 2 ^ (4 + j) := by rw [show 5 + (j + 1) = 4 + j + 2 by omega, Nat.pow_add]; omega
        have e2 : 2 ^ (5 + j) = 2 * 2 ^ (4 + j) := by rw [show 5 + j = 4 + j + 1 by omega, Nat.pow_succ]; omega
        omega
      refine lv_icmp_ne (tgt := 38) hx hb d_pr_insert_31 (by decide) (fun z9 => absurd (by rw [hmn]) z9) (fun _ => ?_)
      have hPg := pa_grow hPA hj7
      have hPm := pa_make hPg (by omega)
      rw [hmn] at hP hD
      refine lv_aload_n hx hb d_pr_insert_34 rfl (lv_at hl 1 rfl) ?_
      refine cg_V (hn := 0) (As := []) (rest := []) (wr := []) (q0 := 0) (ci := 2) hx hb hml hown hts (c_pr_grow l D cI cT cP a qs qk qv qb qn (2 ^ (4 + j)) Z K V P N (nI R.length) (-1) fi la (by omega)) km_pr_51 ki_pr_grow ks_pr_grow kn_pr kc_pr_grow (by decide +kernel) rfl ⟨Nat.le_of_ble_eq_true rfl, Nat.le_of_ble_eq_true rfl⟩ hK hP hD hS hA [0, 1, 2, 3, 4, 5] [] rfl (by decide) rfl (by decide) (by decide) rfl rfl hl.1 rfl (Nat.le_of_ble_eq_true rfl) d_pr_insert_35 ⟨by show _ ≤ mcR j (njr j R.length); omega, by show _ ≤ msR j (njr j R.length); omega⟩ (fun v u H locs hpost hP hD hS => ?_)
      obtain ⟨rs, rk_, rv, rb, rn⟩ := u
      subst hpost
      refine W.eq (g2 := F0 m 38 ls []) rfl ?_
      have hP : va_P D cls (px cI a rs rk_ rv rb rn (2 * 2 ^ (4 + j)) (cpy (2 ^ (4 + j)) Z) (cpy (2 ^ (4 + j)) K) (cpy (2 ^ (4 + j)) V) (cpy (2 ^ (4 + j)) P) (cpy (2 ^ (4 + j)) N) (nI R.length) (-1) (nI (2 ^ (4 + j))) fi la) H := hP
      have hD : va_D A (px cI a rs rk_ rv rb rn (2 * 2 ^ (4 + j)) (cpy (2 ^ (4 + j)) Z) (cpy (2 ^ (4 + j)) K) (cpy (2 ^ (4 + j)) V) (cpy (2 ^ (4 + j)) P) (cpy (2 ^ (4 + j)) N) (nI R.length) (-1) (nI (2 ^ (4 + j))) fi la) := hD
      refine lv_aload_n hx hb d_pr_insert_38 rfl (lv_at hl 1 rfl) ?_
      refine va_get (D := D) (ci := 2) (v := .int (nI (2 ^ (4 + j)))) (C := R_pr) (T := F_pr) (N := 10) hx hb hts i_pr hown hK hP 0 rfl rfl 7 (by decide) (hts _ kf_pr_42) (fun _ h9 => h9) rfl d_pr_insert_39 ?_
      refine lv_istore_n (lv' := [(3, .int (nI (2 ^ (4 + j)))), (0, .ref a), (1, .int k), (2, .int v0)]) hx hb d_pr_insert_42 rfl hl (by decide) rfl (fun ls hl => ?_)
      refine lv_aload_n hx hb d_pr_insert_43 rfl (lv_at hl 1 rfl) ?_
      refine lv_dup hx hb d_pr_insert_44 rfl ?_
      refine va_get (D := D) (ci := 2) (v := .int (nI (2 ^ (4 + j)))) (C := R_pr) (T := F_pr) (N := 10) hx hb hts i_pr hown hK hP 0 rfl rfl 7 (by decide) (hts _ kf_pr_42) (fun _ h9 => h9) rfl d_pr_insert_45 ?_
      refine lv_iconst (v := 1) hx hb d_pr_insert_48 (by decide) ?_
      refine lv_iadd hx hb d_pr_insert_49 ?_
      refine tp_i (y := nI (2 ^ (4 + j) + 1)) (nI_1 _) ?_
      refine va_put (D := D) (ci := 2) (v := .int (nI (2 ^ (4 + j) + 1))) (ty := .int) (C := R_pr) (T := F_pr) (N := 10) hx hb hts i_pr t_pr t_pr_ok n_pr hown hK hP hD hS 0 rfl rfl 7 (by decide) (hts _ kf_pr_42) (fun _ h9 => h9) rfl (by decide +kernel) rfl rfl (Nat.le_of_ble_eq_true rfl) d_pr_insert_50 (fun H locs hP hD hS => ?_)
      have hP : va_P D cls (px cI a rs rk_ rv rb rn (2 * 2 ^ (4 + j)) (cpy (2 ^ (4 + j)) Z) (cpy (2 ^ (4 + j)) K) (cpy (2 ^ (4 + j)) V) (cpy (2 ^ (4 + j)) P) (cpy (2 ^ (4 + j)) N) (nI R.length) (-1) (nI (2 ^ (4 + j) + 1)) fi la) H := hP
      have hD : va_D A (px cI a rs rk_ rv rb rn (2 * 2 ^ (4 + j)) (cpy (2 ^ (4 + j)) Z) (cpy (2 ^ (4 + j)) K) (cpy (2 ^ (4 + j)) V) (cpy (2 ^ (4 + j)) P) (cpy (2 ^ (4 + j)) N) (nI R.length) (-1) (nI (2 ^ (4 + j) + 1)) fi la) := hD
      have hcp : ∀ (f : Nat → Int32) (y : Nat), y ∈ R → cpy (2 ^ (4 + j)) f y = f y := fun f y hy => cpy_in (pa_in hPA hy).2
      have hPN2 : PN (cpy (2 ^ (4 + j)) P) (cpy (2 ^ (4 + j)) N) fi la R := ⟨sg_cong (fun y hy => hcp N y hy) hPN.1, sg_cong (fun y hy => hcp P y (List.mem_reverse.mp hy)) hPN.2⟩
      have hmK : R.map (cpy (2 ^ (4 + j)) K) = R.map K := List.map_congr_left (fun y hy => hcp K y hy)
      have hkv : kv K V R = kv (cpy (2 ^ (4 + j)) K) (cpy (2 ^ (4 + j)) V) R := List.map_congr_left (fun y hy => by rw [hcp K y hy, hcp V y hy])
      have hSl : Sp.length = R.length := hPS.1.length_eq
      have hPS2 : PS (cpy (2 ^ (4 + j)) K) (cpy (2 ^ (4 + j)) Z) R Sp := ⟨hPS.1, hPS.2.1.imp_of_mem (fun {x y} hx1 hy1 q9 => by rw [hcp K x (hPS.1.mem_iff.mp hx1), hcp K y (hPS.1.mem_iff.mp hy1)]; exact q9), fun i hi => by rw [cpy_in (by omega)]; exact hPS.2.2 i hi⟩
      rw [hmn] at hPm
      refine W.widen (k := mcR j (njr j R.length)) (n := msR j (njr j R.length)) (by omega) (by omega) ?_
      exact fin _ (j + 1) (2 ^ (4 + j) + 1) (2 ^ (4 + j)) rs rk_ rv rb rn _ _ _ _ _ (-1) fi la [] Sp hPm hPN2 hPS2 rfl (by rw [hmK]; exact hk) hkv enj.symm _ _ hP hD hS ls (lv_sub hl [1, 2, 3, 0] rfl)
    · have hm2 : mm < 2 ^ (4 + j) := by omega
      refine lv_icmp_ne (tgt := 38) hx hb d_pr_insert_31 (by decide) (fun _ => ?_) (fun z9 => absurd z9 (fun z9 => hmn ((nI_eq (by omega) (by omega)).mp z9)))
      refine lv_aload_n hx hb d_pr_insert_38 rfl (lv_at hl 1 rfl) ?_
      refine va_get (D := D) (ci := 2) (v := .int (nI mm)) (C := R_pr) (T := F_pr) (N := 10) hx hb hts i_pr hown hK hP 0 rfl rfl 7 (by decide) (hts _ kf_pr_42) (fun _ h9 => h9) rfl d_pr_insert_39 ?_
      refine lv_istore_n (lv' := [(3, .int (nI mm)), (0, .ref a), (1, .int k), (2, .int v0)]) hx hb d_pr_insert_42 rfl hl (by decide) rfl (fun ls hl => ?_)
      refine lv_aload_n hx hb d_pr_insert_43 rfl (lv_at hl 1 rfl) ?_
      refine lv_dup hx hb d_pr_insert_44 rfl ?_
      refine va_get (D := D) (ci := 2) (v := .int (nI mm)) (C := R_pr) (T := F_pr) (N := 10) hx hb hts i_pr hown hK hP 0 rfl rfl 7 (by decide) (hts _ kf_pr_42) (fun _ h9 => h9) rfl d_pr_insert_45 ?_
      refine lv_iconst (v := 1) hx hb d_pr_insert_48 (by decide) ?_
      refine lv_iadd hx hb d_pr_insert_49 ?_
      refine tp_i (y := nI (mm + 1)) (nI_1 _) ?_
      refine va_put (D := D) (ci := 2) (v := .int (nI (mm + 1))) (ty := .int) (C := R_pr) (T := F_pr) (N := 10) hx hb hts i_pr t_pr t_pr_ok n_pr hown hK hP hD hS 0 rfl rfl 7 (by decide) (hts _ kf_pr_42) (fun _ h9 => h9) rfl (by decide +kernel) rfl rfl (Nat.le_of_ble_eq_true rfl) d_pr_insert_50 (fun H locs hP hD hS => ?_)
      have hP : va_P D cls (px cI a qs qk qv qb qn (2 ^ (4 + j)) Z K V P N (nI R.length) (-1) (nI (mm + 1)) fi la) H := hP
      have hD : va_D A (px cI a qs qk qv qb qn (2 ^ (4 + j)) Z K V P N (nI R.length) (-1) (nI (mm + 1)) fi la) := hD
      refine W.widen (k := mcR j (njr j R.length)) (n := msR j (njr j R.length)) (Nat.zero_le _) (Nat.zero_le _) ?_
      exact fin _ j (mm + 1) mm qs qk qv qb qn Z K V P N (-1) fi la [] Sp (pa_make hPA hm2) hPN hPS hsF hk rfl (by unfold njr; rw [if_neg (by omega)]) _ _ hP hD hS ls (lv_sub hl [1, 2, 3, 0] rfl)
set_option maxRecDepth 100000 in
set_option maxHeartbeats 4000000 in
/-- clear() -/
theorem c_pr_clear (l : Launch) (D : va_G) (cI cT cP : ClassId) (a qs qk qv qb qn n : Nat) (Z K V P N : Nat → Int32) (my fr md fi la : Int32) : Cg l y_pr_clear b_pr_clear 1 (none) 0 0 0 D (ty3 cI cT cP) [.ref a] (px cI a qs qk qv qb qn n Z K V P N my fr md fi la) (fun (v : Option Value) (u : Unit) => v = none) (fun u => px cI a qs qk qv qb qn n Z K V P N 0 (-1) 0 (-1) (-1)) := by
  refine cg_enter rfl (Nat.le_of_ble_eq_true rfl) ?_
  intro p e s m below meth c args hx hb hr hlk hml hown hin hts A hA hK hP hD hS ls hl Q hQ
  have hl : lv_has ls 1 [(0, .ref a)] := hl
  have hP : va_P D cls (px cI a qs qk qv qb qn n Z K V P N my fr md fi la) s.heap := hP
  have hD : va_D A (px cI a qs qk qv qb qn n Z K V P N my fr md fi la) := hD
  refine lv_aload_n hx hb d_pr_clear_0 rfl (lv_at hl 0 rfl) ?_
  refine lv_iconst (v := 0) hx hb d_pr_clear_1 (by decide) ?_
  refine va_put (D := D) (ci := 2) (v := .int 0) (ty := .int) (C := R_pr) (T := F_pr) (N := 10) hx hb hts i_pr t_pr t_pr_ok n_pr hown hK hP hD hS 0 rfl rfl 5 (by decide) (hts _ kf_pr_35) (fun _ h9 => h9) rfl (by decide +kernel) rfl rfl (Nat.le_of_ble_eq_true rfl) d_pr_clear_2 (fun H locs hP hD hS => ?_)
  have hP : va_P D cls (px cI a qs qk qv qb qn n Z K V P N 0 fr md fi la) H := hP
  have hD : va_D A (px cI a qs qk qv qb qn n Z K V P N 0 fr md fi la) := hD
  refine lv_aload_n hx hb d_pr_clear_5 rfl (lv_at hl 0 rfl) ?_
  refine lv_iconst (v := (-1)) hx hb d_pr_clear_6 (by decide) ?_
  refine va_put (D := D) (ci := 2) (v := .int (-1)) (ty := .int) (C := R_pr) (T := F_pr) (N := 10) hx hb hts i_pr t_pr t_pr_ok n_pr hown hK hP hD hS 0 rfl rfl 6 (by decide) (hts _ kf_pr_25) (fun _ h9 => h9) rfl (by decide +kernel) rfl rfl (Nat.le_of_ble_eq_true rfl) d_pr_clear_7 (fun H locs hP hD hS => ?_)
  have hP : va_P D cls (px cI a qs qk qv qb qn n Z K V P N 0 (-1) md fi la) H := hP
  have hD : va_D A (px cI a qs qk qv qb qn n Z K V P N 0 (-1) md fi la) := hD
  refine lv_aload_n hx hb d_pr_clear_10 rfl (lv_at hl 0 rfl) ?_
  refine lv_iconst (v := 0) hx hb d_pr_clear_11 (by decide) ?_
  refine va_put (D := D) (ci := 2) (v := .int 0) (ty := .int) (C := R_pr) (T := F_pr) (N := 10) hx hb hts i_pr t_pr t_pr_ok n_pr hown hK hP hD hS 0 rfl rfl 7 (by decide) (hts _ kf_pr_42) (fun _ h9 => h9) rfl (by decide +kernel) rfl rfl (Nat.le_of_ble_eq_true rfl) d_pr_clear_12 (fun H locs hP hD hS => ?_)
  have hP : va_P D cls (px cI a qs qk qv qb qn n Z K V P N 0 (-1) 0 fi la) H := hP
  have hD : va_D A (px cI a qs qk qv qb qn n Z K V P N 0 (-1) 0 fi la) := hD
  refine lv_aload_n hx hb d_pr_clear_15 rfl (lv_at hl 0 rfl) ?_
  refine lv_iconst (v := (-1)) hx hb d_pr_clear_16 (by decide) ?_
  refine va_put (D := D) (ci := 2) (v := .int (-1)) (ty := .int) (C := R_pr) (T := F_pr) (N := 10) hx hb hts i_pr t_pr t_pr_ok n_pr hown hK hP hD hS 0 rfl rfl 8 (by decide) (hts _ kf_pr_29) (fun _ h9 => h9) rfl (by decide +kernel) rfl rfl (Nat.le_of_ble_eq_true rfl) d_pr_clear_17 (fun H locs hP hD hS => ?_)
  have hP : va_P D cls (px cI a qs qk qv qb qn n Z K V P N 0 (-1) 0 (-1) la) H := hP
  have hD : va_D A (px cI a qs qk qv qb qn n Z K V P N 0 (-1) 0 (-1) la) := hD
  refine lv_aload_n hx hb d_pr_clear_20 rfl (lv_at hl 0 rfl) ?_
  refine lv_iconst (v := (-1)) hx hb d_pr_clear_21 (by decide) ?_
  refine va_put (D := D) (ci := 2) (v := .int (-1)) (ty := .int) (C := R_pr) (T := F_pr) (N := 10) hx hb hts i_pr t_pr t_pr_ok n_pr hown hK hP hD hS 0 rfl rfl 9 (by decide) (hts _ kf_pr_32) (fun _ h9 => h9) rfl (by decide +kernel) rfl rfl (Nat.le_of_ble_eq_true rfl) d_pr_clear_22 (fun H locs hP hD hS => ?_)
  have hP : va_P D cls (px cI a qs qk qv qb qn n Z K V P N 0 (-1) 0 (-1) (-1)) H := hP
  have hD : va_D A (px cI a qs qk qv qb qn n Z K V P N 0 (-1) 0 (-1) (-1)) := hD
  exact cg_vret (u := ()) hQ hx hb hr hlk hK hP hD hS rfl d_pr_clear_25
set_option maxRecDepth 100000 in
set_option maxHeartbeats 4000000 in
/-- new Pairs() -/
theorem c_pr_init (l : Launch) (D : va_G) (cI cT cP : ClassId) (a : Nat) : Cg l y_pr_init b_pr_init 1 (none) 1 5 80 D (ty3 cI cT cP) [.ref a] ([(a, .inr (2, [.null, .null, .null, .null, .null, .int 0, .int 0, .int 0, .int 0, .int 0]))]) (fun (v : Option Value) (u : PB) => v = none ∧ PL 0 [] u) (fun u => pw cI a 0 u) := by
  refine cg_enter rfl (Nat.le_of_ble_eq_true rfl) ?_
  intro p e s m below meth c args hx hb hr hlk hml hown hin hts A hA hK hP hD hS ls hl Q hQ
  have hl : lv_has ls 1 [(0, .ref a)] := hl
  have hP : va_P D cls ([(a, .inr (2, [.null, .null, .null, .null, .null, .int 0, .int 0, .int 0, .int 0, .int 0]))]) s.heap := hP
  have hD : va_D A ([(a, .inr (2, [.null, .null, .null, .null, .null, .int 0, .int 0, .int 0, .int 0, .int 0]))]) := hD
  refine lv_aload_n hx hb d_pr_init_0 rfl (lv_at hl 0 rfl) ?_
  refine W.objInit hx hb hown (hts _ km_pr_1) (hts _ ki_jo_init) (hts _ kc_jo_init) rfl (by rw [hml]; exact hl.1) rfl d_pr_init_1 (Nat.le_of_ble_eq_true rfl) (Nat.le_of_ble_eq_true rfl) ?_
  refine lv_aload_n hx hb d_pr_init_4 rfl (lv_at hl 0 rfl) ?_
  refine lv_bipush (v := 16) hx hb d_pr_init_5 (by decide) ?_
  refine wa_new (k := 16) hx hb hts hK hP hD hS hA (by decide) (by decide) (by decide) d_pr_init_7 (fun rs H hP hD hS => ?_)
  have hP : va_P D cls ([(a, .inr (2, [.null, .null, .null, .null, .null, .int 0, .int 0, .int 0, .int 0, .int 0])), (rs, .inl (cI, 16, .inl (fun _ => 0)))]) H := hP
  have hD : va_D A ([(a, .inr (2, [.null, .null, .null, .null, .null, .int 0, .int 0, .int 0, .int 0, .int 0])), (rs, .inl (cI, 16, .inl (fun _ => 0)))]) := hD
  refine va_put (D := D) (ci := 2) (v := .ref rs) (ty := .array .int) (C := R_pr) (T := F_pr) (N := 10) hx hb hts i_pr t_pr t_pr_ok n_pr hown hK hP hD hS 0 rfl rfl 0 (by decide) (hts _ kf_pr_7) (fun _ h9 => h9) rfl (by decide +kernel) rfl rfl (Nat.le_of_ble_eq_true rfl) d_pr_init_9 (fun H locs hP hD hS => ?_)
  have hP : va_P D cls ([(a, .inr (2, [.ref rs, .null, .null, .null, .null, .int 0, .int 0, .int 0, .int 0, .int 0])), (rs, .inl (cI, 16, .inl (fun _ => 0)))]) H := hP
  have hD : va_D A ([(a, .inr (2, [.ref rs, .null, .null, .null, .null, .int 0, .int 0, .int 0, .int 0, .int 0])), (rs, .inl (cI, 16, .inl (fun _ => 0)))]) := hD
  refine lv_aload_n hx hb d_pr_init_12 rfl (lv_at hl 0 rfl) ?_
  refine lv_bipush (v := 16) hx hb d_pr_init_13 (by decide) ?_
  refine wa_new (k := 16) hx hb hts hK hP hD hS hA (by decide) (by decide) (by decide) d_pr_init_15 (fun rk H hP hD hS => ?_)
  have hP : va_P D cls ([(a, .inr (2, [.ref rs, .null, .null, .null, .null, .int 0, .int 0, .int 0, .int 0, .int 0])), (rs, .inl (cI, 16, .inl (fun _ => 0))), (rk, .inl (cI, 16, .inl (fun _ => 0)))]) H := hP
  have hD : va_D A ([(a, .inr (2, [.ref rs, .null, .null, .null, .null, .int 0, .int 0, .int 0, .int 0, .int 0])), (rs, .inl (cI, 16, .inl (fun _ => 0))), (rk, .inl (cI, 16, .inl (fun _ => 0)))]) := hD
  refine va_put (D := D) (ci := 2) (v := .ref rk) (ty := .array .int) (C := R_pr) (T := F_pr) (N := 10) hx hb hts i_pr t_pr t_pr_ok n_pr hown hK hP hD hS 0 rfl rfl 1 (by decide) (hts _ kf_pr_13) (fun _ h9 => h9) rfl (by decide +kernel) rfl rfl (Nat.le_of_ble_eq_true rfl) d_pr_init_17 (fun H locs hP hD hS => ?_)
  have hP : va_P D cls ([(a, .inr (2, [.ref rs, .ref rk, .null, .null, .null, .int 0, .int 0, .int 0, .int 0, .int 0])), (rs, .inl (cI, 16, .inl (fun _ => 0))), (rk, .inl (cI, 16, .inl (fun _ => 0)))]) H := hP
  have hD : va_D A ([(a, .inr (2, [.ref rs, .ref rk, .null, .null, .null, .int 0, .int 0, .int 0, .int 0, .int 0])), (rs, .inl (cI, 16, .inl (fun _ => 0))), (rk, .inl (cI, 16, .inl (fun _ => 0)))]) := hD
  refine lv_aload_n hx hb d_pr_init_20 rfl (lv_at hl 0 rfl) ?_
  refine lv_bipush (v := 16) hx hb d_pr_init_21 (by decide) ?_
  refine wa_new (k := 16) hx hb hts hK hP hD hS hA (by decide) (by decide) (by decide) d_pr_init_23 (fun rv H hP hD hS => ?_)
  have hP : va_P D cls ([(a, .inr (2, [.ref rs, .ref rk, .null, .null, .null, .int 0, .int 0, .int 0, .int 0, .int 0])), (rs, .inl (cI, 16, .inl (fun _ => 0))), (rk, .inl (cI, 16, .inl (fun _ => 0))), (rv, .inl (cI, 16, .inl (fun _ => 0)))]) H := hP
  have hD : va_D A ([(a, .inr (2, [.ref rs, .ref rk, .null, .null, .null, .int 0, .int 0, .int 0, .int 0, .int 0])), (rs, .inl (cI, 16, .inl (fun _ => 0))), (rk, .inl (cI, 16, .inl (fun _ => 0))), (rv, .inl (cI, 16, .inl (fun _ => 0)))]) := hD
  refine va_put (D := D) (ci := 2) (v := .ref rv) (ty := .array .int) (C := R_pr) (T := F_pr) (N := 10) hx hb hts i_pr t_pr t_pr_ok n_pr hown hK hP hD hS 0 rfl rfl 2 (by decide) (hts _ kf_pr_16) (fun _ h9 => h9) rfl (by decide +kernel) rfl rfl (Nat.le_of_ble_eq_true rfl) d_pr_init_25 (fun H locs hP hD hS => ?_)
  have hP : va_P D cls ([(a, .inr (2, [.ref rs, .ref rk, .ref rv, .null, .null, .int 0, .int 0, .int 0, .int 0, .int 0])), (rs, .inl (cI, 16, .inl (fun _ => 0))), (rk, .inl (cI, 16, .inl (fun _ => 0))), (rv, .inl (cI, 16, .inl (fun _ => 0)))]) H := hP
  have hD : va_D A ([(a, .inr (2, [.ref rs, .ref rk, .ref rv, .null, .null, .int 0, .int 0, .int 0, .int 0, .int 0])), (rs, .inl (cI, 16, .inl (fun _ => 0))), (rk, .inl (cI, 16, .inl (fun _ => 0))), (rv, .inl (cI, 16, .inl (fun _ => 0)))]) := hD
  refine lv_aload_n hx hb d_pr_init_28 rfl (lv_at hl 0 rfl) ?_
  refine lv_bipush (v := 16) hx hb d_pr_init_29 (by decide) ?_
  refine wa_new (k := 16) hx hb hts hK hP hD hS hA (by decide) (by decide) (by decide) d_pr_init_31 (fun rb H hP hD hS => ?_)
  have hP : va_P D cls ([(a, .inr (2, [.ref rs, .ref rk, .ref rv, .null, .null, .int 0, .int 0, .int 0, .int 0, .int 0])), (rs, .inl (cI, 16, .inl (fun _ => 0))), (rk, .inl (cI, 16, .inl (fun _ => 0))), (rv, .inl (cI, 16, .inl (fun _ => 0))), (rb, .inl (cI, 16, .inl (fun _ => 0)))]) H := hP
  have hD : va_D A ([(a, .inr (2, [.ref rs, .ref rk, .ref rv, .null, .null, .int 0, .int 0, .int 0, .int 0, .int 0])), (rs, .inl (cI, 16, .inl (fun _ => 0))), (rk, .inl (cI, 16, .inl (fun _ => 0))), (rv, .inl (cI, 16, .inl (fun _ => 0))), (rb, .inl (cI, 16, .inl (fun _ => 0)))]) := hD
  refine va_put (D := D) (ci := 2) (v := .ref rb) (ty := .array .int) (C := R_pr) (T := F_pr) (N := 10) hx hb hts i_pr t_pr t_pr_ok n_pr hown hK hP hD hS 0 rfl rfl 3 (by decide) (hts _ kf_pr_19) (fun _ h9 => h9) rfl (by decide +kernel) rfl rfl (Nat.le_of_ble_eq_true rfl) d_pr_init_33 (fun H locs hP hD hS => ?_)
  have hP : va_P D cls ([(a, .inr (2, [.ref rs, .ref rk, .ref rv, .ref rb, .null, .int 0, .int 0, .int 0, .int 0, .int 0])), (rs, .inl (cI, 16, .inl (fun _ => 0))), (rk, .inl (cI, 16, .inl (fun _ => 0))), (rv, .inl (cI, 16, .inl (fun _ => 0))), (rb, .inl (cI, 16, .inl (fun _ => 0)))]) H := hP
  have hD : va_D A ([(a, .inr (2, [.ref rs, .ref rk, .ref rv, .ref rb, .null, .int 0, .int 0, .int 0, .int 0, .int 0])), (rs, .inl (cI, 16, .inl (fun _ => 0))), (rk, .inl (cI, 16, .inl (fun _ => 0))), (rv, .inl (cI, 16, .inl (fun _ => 0))), (rb, .inl (cI, 16, .inl (fun _ => 0)))]) := hD
  refine lv_aload_n hx hb d_pr_init_36 rfl (lv_at hl 0 rfl) ?_
  refine lv_bipush (v := 16) hx hb d_pr_init_37 (by decide) ?_
  refine wa_new (k := 16) hx hb hts hK hP hD hS hA (by decide) (by decide) (by decide) d_pr_init_39 (fun rn H hP hD hS => ?_)
  have hP : va_P D cls ([(a, .inr (2, [.ref rs, .ref rk, .ref rv, .ref rb, .null, .int 0, .int 0, .int 0, .int 0, .int 0])), (rs, .inl (cI, 16, .inl (fun _ => 0))), (rk, .inl (cI, 16, .inl (fun _ => 0))), (rv, .inl (cI, 16, .inl (fun _ => 0))), (rb, .inl (cI, 16, .inl (fun _ => 0))), (rn, .inl (cI, 16, .inl (fun _ => 0)))]) H := hP
  have hD : va_D A ([(a, .inr (2, [.ref rs, .ref rk, .ref rv, .ref rb, .null, .int 0, .int 0, .int 0, .int 0, .int 0])), (rs, .inl (cI, 16, .inl (fun _ => 0))), (rk, .inl (cI, 16, .inl (fun _ => 0))), (rv, .inl (cI, 16, .inl (fun _ => 0))), (rb, .inl (cI, 16, .inl (fun _ => 0))), (rn, .inl (cI, 16, .inl (fun _ => 0)))]) := hD
  refine va_put (D := D) (ci := 2) (v := .ref rn) (ty := .array .int) (C := R_pr) (T := F_pr) (N := 10) hx hb hts i_pr t_pr t_pr_ok n_pr hown hK hP hD hS 0 rfl rfl 4 (by decide) (hts _ kf_pr_22) (fun _ h9 => h9) rfl (by decide +kernel) rfl rfl (Nat.le_of_ble_eq_true rfl) d_pr_init_41 (fun H locs hP hD hS => ?_)
  have hP : va_P D cls ([(a, .inr (2, [.ref rs, .ref rk, .ref rv, .ref rb, .ref rn, .int 0, .int 0, .int 0, .int 0, .int 0])), (rs, .inl (cI, 16, .inl (fun _ => 0))), (rk, .inl (cI, 16, .inl (fun _ => 0))), (rv, .inl (cI, 16, .inl (fun _ => 0))), (rb, .inl (cI, 16, .inl (fun _ => 0))), (rn, .inl (cI, 16, .inl (fun _ => 0)))]) H := hP
  have hD : va_D A ([(a, .inr (2, [.ref rs, .ref rk, .ref rv, .ref rb, .ref rn, .int 0, .int 0, .int 0, .int 0, .int 0])), (rs, .inl (cI, 16, .inl (fun _ => 0))), (rk, .inl (cI, 16, .inl (fun _ => 0))), (rv, .inl (cI, 16, .inl (fun _ => 0))), (rb, .inl (cI, 16, .inl (fun _ => 0))), (rn, .inl (cI, 16, .inl (fun _ => 0)))]) := hD
  refine lv_aload_n hx hb d_pr_init_44 rfl (lv_at hl 0 rfl) ?_
  refine lv_iconst (v := (-1)) hx hb d_pr_init_45 (by decide) ?_
  refine va_put (D := D) (ci := 2) (v := .int (-1)) (ty := .int) (C := R_pr) (T := F_pr) (N := 10) hx hb hts i_pr t_pr t_pr_ok n_pr hown hK hP hD hS 0 rfl rfl 6 (by decide) (hts _ kf_pr_25) (fun _ h9 => h9) rfl (by decide +kernel) rfl rfl (Nat.le_of_ble_eq_true rfl) d_pr_init_46 (fun H locs hP hD hS => ?_)
  have hP : va_P D cls ([(a, .inr (2, [.ref rs, .ref rk, .ref rv, .ref rb, .ref rn, .int 0, .int (-1), .int 0, .int 0, .int 0])), (rs, .inl (cI, 16, .inl (fun _ => 0))), (rk, .inl (cI, 16, .inl (fun _ => 0))), (rv, .inl (cI, 16, .inl (fun _ => 0))), (rb, .inl (cI, 16, .inl (fun _ => 0))), (rn, .inl (cI, 16, .inl (fun _ => 0)))]) H := hP
  have hD : va_D A ([(a, .inr (2, [.ref rs, .ref rk, .ref rv, .ref rb, .ref rn, .int 0, .int (-1), .int 0, .int 0, .int 0])), (rs, .inl (cI, 16, .inl (fun _ => 0))), (rk, .inl (cI, 16, .inl (fun _ => 0))), (rv, .inl (cI, 16, .inl (fun _ => 0))), (rb, .inl (cI, 16, .inl (fun _ => 0))), (rn, .inl (cI, 16, .inl (fun _ => 0)))]) := hD
  refine lv_aload_n hx hb d_pr_init_49 rfl (lv_at hl 0 rfl) ?_
  refine lv_iconst (v := (-1)) hx hb d_pr_init_50 (by decide) ?_
  refine va_put (D := D) (ci := 2) (v := .int (-1)) (ty := .int) (C := R_pr) (T := F_pr) (N := 10) hx hb hts i_pr t_pr t_pr_ok n_pr hown hK hP hD hS 0 rfl rfl 8 (by decide) (hts _ kf_pr_29) (fun _ h9 => h9) rfl (by decide +kernel) rfl rfl (Nat.le_of_ble_eq_true rfl) d_pr_init_51 (fun H locs hP hD hS => ?_)
  have hP : va_P D cls ([(a, .inr (2, [.ref rs, .ref rk, .ref rv, .ref rb, .ref rn, .int 0, .int (-1), .int 0, .int (-1), .int 0])), (rs, .inl (cI, 16, .inl (fun _ => 0))), (rk, .inl (cI, 16, .inl (fun _ => 0))), (rv, .inl (cI, 16, .inl (fun _ => 0))), (rb, .inl (cI, 16, .inl (fun _ => 0))), (rn, .inl (cI, 16, .inl (fun _ => 0)))]) H := hP
  have hD : va_D A ([(a, .inr (2, [.ref rs, .ref rk, .ref rv, .ref rb, .ref rn, .int 0, .int (-1), .int 0, .int (-1), .int 0])), (rs, .inl (cI, 16, .inl (fun _ => 0))), (rk, .inl (cI, 16, .inl (fun _ => 0))), (rv, .inl (cI, 16, .inl (fun _ => 0))), (rb, .inl (cI, 16, .inl (fun _ => 0))), (rn, .inl (cI, 16, .inl (fun _ => 0)))]) := hD
  refine lv_aload_n hx hb d_pr_init_54 rfl (lv_at hl 0 rfl) ?_
  refine lv_iconst (v := (-1)) hx hb d_pr_init_55 (by decide) ?_
  refine va_put (D := D) (ci := 2) (v := .int (-1)) (ty := .int) (C := R_pr) (T := F_pr) (N := 10) hx hb hts i_pr t_pr t_pr_ok n_pr hown hK hP hD hS 0 rfl rfl 9 (by decide) (hts _ kf_pr_32) (fun _ h9 => h9) rfl (by decide +kernel) rfl rfl (Nat.le_of_ble_eq_true rfl) d_pr_init_56 (fun H locs hP hD hS => ?_)
  have hP : va_P D cls ([(a, .inr (2, [.ref rs, .ref rk, .ref rv, .ref rb, .ref rn, .int 0, .int (-1), .int 0, .int (-1), .int (-1)])), (rs, .inl (cI, 16, .inl (fun _ => 0))), (rk, .inl (cI, 16, .inl (fun _ => 0))), (rv, .inl (cI, 16, .inl (fun _ => 0))), (rb, .inl (cI, 16, .inl (fun _ => 0))), (rn, .inl (cI, 16, .inl (fun _ => 0)))]) H := hP
  have hD : va_D A ([(a, .inr (2, [.ref rs, .ref rk, .ref rv, .ref rb, .ref rn, .int 0, .int (-1), .int 0, .int (-1), .int (-1)])), (rs, .inl (cI, 16, .inl (fun _ => 0))), (rk, .inl (cI, 16, .inl (fun _ => 0))), (rv, .inl (cI, 16, .inl (fun _ => 0))), (rb, .inl (cI, 16, .inl (fun _ => 0))), (rn, .inl (cI, 16, .inl (fun _ => 0)))]) := hD
  have hP : va_P D cls ([(a, .inr (2, [.ref rs, .ref rk, .ref rv, .ref rb, .ref rn, .int 0, .int (-1), .int 0, .int (-1), .int (-1)])), (rs, .inl (cI, 16, .inl (fun _ => 0))), (rk, .inl (cI, 16, .inl (fun _ => 0))), (rv, .inl (cI, 16, .inl (fun _ => 0))), (rb, .inl (cI, 16, .inl (fun _ => 0))), (rn, .inl (cI, 16, .inl (fun _ => 0)))]) H := hP.sub [0, 1, 2, 3, 4, 5] rfl
  have hD : va_D A ([(a, .inr (2, [.ref rs, .ref rk, .ref rv, .ref rb, .ref rn, .int 0, .int (-1), .int 0, .int (-1), .int (-1)])), (rs, .inl (cI, 16, .inl (fun _ => 0))), (rk, .inl (cI, 16, .inl (fun _ => 0))), (rv, .inl (cI, 16, .inl (fun _ => 0))), (rb, .inl (cI, 16, .inl (fun _ => 0))), (rn, .inl (cI, 16, .inl (fun _ => 0)))]) := hD.sub [0, 1, 2, 3, 4, 5] (by decide) rfl
  exact cg_vret (u := (rs, rk, rv, rb, rn, (fun _ => 0), (fun _ => 0), (fun _ => 0), (fun _ => 0), (fun _ => 0), -1, 0, -1, -1, [])) hQ hx hb hr hlk hK hP hD hS (⟨rfl, [], [], ⟨⟨rfl, by decide⟩, by show 0 ≤ 2 ^ (4 + 0); decide, by simp, fun x => by simp, rfl⟩, ⟨rfl, rfl⟩, ⟨List.Perm.refl _, List.Pairwise.nil, fun i hi => absurd hi (Nat.not_lt_zero _)⟩, rfl, rfl⟩) d_pr_init_59
