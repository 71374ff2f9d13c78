-- Table over its state: printed by wip/whole/gen/tb2.py
theorem inc_l (l : List Nat) (x : Nat) : nI l.length + Int32.ofInt 1 = nI (l ++ [x]).length := by
  rw [List.length_append]
  exact nI_1 _
theorem inc_n (i : Nat) : nI i + Int32.ofInt 1 = nI (i + 1) := nI_1 i
theorem ta_len {n j m : Nat} {R Fr : List Nat} (h : TA n j m R Fr) : R.length < n ∧ R.length < 2 ^ 31 ∧ n < 2 ^ 31 := by
  have h1 := ta_n h
  have h2 := h.2.2.2.2
  have h3 := h.2.1
  omega
set_option maxRecDepth 100000 in
set_option maxHeartbeats 4000000 in
/-- slotOf(k) -/
theorem c_tb_slotOf (l : Launch) (D : va_G) (cI cT cP : ClassId) (a : Nat) (mv : Int32) (qk qv qb qf qh qc n : Nat) (K V P N G C : Nat → Int32) (fl lm : Int32) (j mm : Nat) (R Fr : List Nat) (bl : Nat → List Nat) (hTA : TA n j mm R Fr) (hTH : TH n K G C fl R Fr bl) (hKn : (R.map K).Nodup) (k : Int32) : Cg l y_tb_slotOf b_tb_slotOf 4 (some .int) 1 0 0 D (ty3 cI cT cP) [.ref a, .int k] (tx cI a mv (nI R.length) qk qv qb qf qh qc n K V P N G C fl lm) (fun (v : Option Value) (u : Unit) => v = some (.int (nI (sl K k R)))) (fun u => tx cI a mv (nI R.length) qk qv qb qf qh qc n K V P N G C fl lm) := by
  have hn : n < 2 ^ 31 := (ta_len hTA).2.2
  have hRl : R.length < 2 ^ 31 := (ta_len hTA).2.1
  have et : n = 2 ^ (4 + j) := hTA.1.1
  have ht : 4 + j ≤ 30 := by have := hTA.1.2; omega
  have hz : hof n k < n := hof_lt (by have := ta_n hTA; omega) _
  refine cg_enter rfl (Nat.le_of_ble_eq_true rfl) ?_
  intro p e s m below meth c args hx hb hr hlk hml hown hin hts A hA hK hP hD hS ls hl Q hQ
  have hl : lv_has ls 4 [(0, .ref a), (1, .int k)] := hl
  have hP : va_P D cls (tx cI a mv (nI R.length) qk qv qb qf qh qc n K V P N G C fl lm) s.heap := hP
  have hD : va_D A (tx cI a mv (nI R.length) qk qv qb qf qh qc n K V P N G C fl lm) := hD
  refine lv_aload_n hx hb d_tb_slotOf_0 rfl (lv_at hl 0 rfl) ?_
  refine va_get (D := D) (ci := 0) (v := .ref qh) (C := R_tb) (T := F_tb) (N := 10) hx hb hts i_tb hown hK hP 0 rfl rfl 6 (by decide) (hts _ kf_tb_28) (fun _ h9 => h9) rfl d_tb_slotOf_1 ?_
  refine lv_aload_n hx hb d_tb_slotOf_4 rfl (lv_at hl 0 rfl) ?_
  refine lv_iload_n hx hb d_tb_slotOf_5 rfl (lv_at hl 1 rfl) ?_
  refine cg_V (hn := 1) (As := [.int k]) (rest := [.ref qh]) (wr := []) (q0 := 0) (ci := 0) hx hb hml hown hts (c_tb_headOf l D cI cT cP a mv (nI R.length) qk qv qb qf qh qc n K V P N G C fl lm hn (4 + j) et ht k) km_tb_87 ki_tb_headOf ks_tb_headOf kn_tb kc_tb_headOf (by decide +kernel) rfl ⟨Nat.le_of_ble_eq_true rfl, Nat.le_of_ble_eq_true rfl⟩ hK hP hD hS hA [0, 1, 2, 3, 4, 5, 6] [] rfl (by decide) rfl (by decide) (by decide) rfl rfl hl.1 rfl (Nat.le_of_ble_eq_true rfl) d_tb_slotOf_6 ⟨Nat.le_refl _, Nat.le_refl _⟩ (fun v u H locs hpost hP hD hS => ?_)
  subst hpost
  refine W.eq (g2 := F0 m 9 ls [.int (nI (hof n k)), .ref qh]) rfl ?_
  have hP : va_P D cls (tx cI a mv (nI R.length) qk qv qb qf qh qc n K V P N G C fl lm) H := hP
  have hD : va_D A (tx cI a mv (nI R.length) qk qv qb qf qh qc n K V P N G C fl lm) := hD
  refine wa_ld (k := hof n k) hx hb hK hP 5 0 rfl rfl hz hn d_tb_slotOf_9 ?_
  refine tp_i (y := nI (hd_ 0 (bl (hof n k)))) (sg_hd0 (hTH.2 _ hz).1) ?_
  refine lv_istore_n (lv' := [(2, .int (nI (hd_ 0 (bl (hof n k))))), (0, .ref a), (1, .int k)]) hx hb d_tb_slotOf_10 rfl hl (by decide) rfl (fun ls hl => ?_)
  refine lv_iconst (v := 0) hx hb d_tb_slotOf_11 (by decide) ?_
  refine lv_istore_n (lv' := [(3, .int 0), (2, .int (nI (hd_ 0 (bl (hof n k))))), (0, .ref a), (1, .int k)]) hx hb d_tb_slotOf_12 rfl hl (by decide) rfl (fun ls hl => ?_)
  have loop : ∀ (b2 b1 : List Nat), bl (hof n k) = b1 ++ b2 → (∀ y, y ∈ b1 → K y ≠ k) → ∀ ls : Array Slot, lv_has ls 4 [(0, .ref a), (1, .int k), (2, .int (nI (hd_ 0 b2))), (3, .int (nI b1.length))] → W p l e (rmL 1 0 0) s m args below meth c H locs 0 0 Q (F0 m 13 ls []) := by
    intro b2
    induction b2 with
    | nil =>
      intro b1 eb hb1 ls hl
      have e0 : sl K k R = 0 := sl_none (fun z9 => by
        obtain ⟨x, hx1, ex⟩ := List.mem_map.mp z9
        have h1 : x ∈ bl (hof n k) := (th_bl hTH hz).mpr ⟨hx1, by rw [ex]⟩
        rw [eb, List.append_nil] at h1
        exact hb1 x h1 ex)
      have hl : lv_has ls 4 [(0, .ref a), (1, .int k), (2, .int 0), (3, .int (nI b1.length))] := hl
      refine lv_iload_n hx hb d_tb_slotOf_13 rfl (lv_at hl 3 rfl) ?_
      refine lv_aload_n hx hb d_tb_slotOf_14 rfl (lv_at hl 0 rfl) ?_
      refine va_get (D := D) (ci := 0) (v := .int (nI R.length)) (C := R_tb) (T := F_tb) (N := 10) hx hb hts i_tb hown hK hP 0 rfl rfl 1 (by decide) (hts _ kf_tb_52) (fun _ h9 => h9) rfl d_tb_slotOf_15 ?_
      refine lv_icmp_ge (tgt := 50) hx hb d_tb_slotOf_18 (by decide) (fun c1 => ?_) (fun c1 => ?_)
      · refine lv_iconst (v := 0) hx hb d_tb_slotOf_50 (by decide) ?_
        exact cg_iret (u := ()) hQ hx hb hr hlk hK hP hD hS (by rw [e0]; rfl) d_tb_slotOf_51
      · refine lv_iload_n hx hb d_tb_slotOf_21 rfl (lv_at hl 2 rfl) ?_
        refine lv_if_eq (tgt := 50) hx hb d_tb_slotOf_22 (by decide) (fun _ => ?_) (fun z9 => absurd rfl z9)
        refine lv_iconst (v := 0) hx hb d_tb_slotOf_50 (by decide) ?_
        exact cg_iret (u := ()) hQ hx hb hr hlk hK hP hD hS (by rw [e0]; rfl) d_tb_slotOf_51
    | cons x b2 ih =>
      intro b1 eb hb1 ls hl
      have hxR : x ∈ R ∧ hof n (K x) = hof n k := (th_bl hTH hz).mp (by rw [eb]; exact List.mem_append_right _ (List.mem_cons_self ..))
      have hxn := ta_in hTA hxR.1
      have hlt : b1.length < R.length := by
        have h1 := th_len hTH hz
        rw [eb, List.length_append, List.length_cons] at h1
        omega
      have h0 : sg C (G (hof n k)) (b1 ++ x :: b2) 0 := by rw [← eb]; exact (hTH.2 _ hz).1
      have sC : C x = nI (hd_ 0 b2) := sg_hd0 (sg_app.mp h0).2
      have hl : lv_has ls 4 [(0, .ref a), (1, .int k), (2, .int (nI x)), (3, .int (nI b1.length))] := hl
      refine lv_iload_n hx hb d_tb_slotOf_13 rfl (lv_at hl 3 rfl) ?_
      refine lv_aload_n hx hb d_tb_slotOf_14 rfl (lv_at hl 0 rfl) ?_
      refine va_get (D := D) (ci := 0) (v := .int (nI R.length)) (C := R_tb) (T := F_tb) (N := 10) hx hb hts i_tb hown hK hP 0 rfl rfl 1 (by decide) (hts _ kf_tb_52) (fun _ h9 => h9) rfl d_tb_slotOf_15 ?_
      refine lv_icmp_ge (tgt := 50) hx hb d_tb_slotOf_18 (by decide) (fun z9 => absurd z9 (nI_ge hlt hRl)) (fun _ => ?_)
      refine lv_iload_n hx hb d_tb_slotOf_21 rfl (lv_at hl 2 rfl) ?_
      refine lv_if_eq (tgt := 50) hx hb d_tb_slotOf_22 (by decide) (fun z9 => absurd z9 (nI_ne0 hxn.1 (by omega))) (fun _ => ?_)
      refine lv_aload_n hx hb d_tb_slotOf_25 rfl (lv_at hl 0 rfl) ?_
      refine va_get (D := D) (ci := 0) (v := .ref qk) (C := R_tb) (T := F_tb) (N := 10) hx hb hts i_tb hown hK hP 0 rfl rfl 2 (by decide) (hts _ kf_tb_15) (fun _ h9 => h9) rfl d_tb_slotOf_26 ?_
      refine lv_iload_n hx hb d_tb_slotOf_29 rfl (lv_at hl 2 rfl) ?_
      refine wa_ld (k := x) hx hb hK hP 1 0 rfl rfl hxn.2.2 hn d_tb_slotOf_30 ?_
      refine lv_iload_n hx hb d_tb_slotOf_31 rfl (lv_at hl 1 rfl) ?_
      refine lv_icmp_ne (tgt := 37) hx hb d_tb_slotOf_32 (by decide) (fun c1 => ?_) (fun c1 => ?_)
      · refine lv_aload_n hx hb d_tb_slotOf_37 rfl (lv_at hl 0 rfl) ?_
        refine va_get (D := D) (ci := 0) (v := .ref qc) (C := R_tb) (T := F_tb) (N := 10) hx hb hts i_tb hown hK hP 0 rfl rfl 7 (by decide) (hts _ kf_tb_31) (fun _ h9 => h9) rfl d_tb_slotOf_38 ?_
        refine lv_iload_n hx hb d_tb_slotOf_41 rfl (lv_at hl 2 rfl) ?_
        refine wa_ld (k := x) hx hb hK hP 6 0 rfl rfl hxn.2.2 hn d_tb_slotOf_42 ?_
        refine tp_i (y := nI (hd_ 0 b2)) sC ?_
        refine lv_istore_n (lv' := [(2, .int (nI (hd_ 0 b2))), (0, .ref a), (1, .int k), (3, .int (nI b1.length))]) hx hb d_tb_slotOf_43 rfl hl (by decide) rfl (fun ls hl => ?_)
        refine lv_iinc (v := nI (b1 ++ [x]).length) (lv' := [(3, .int (nI (b1 ++ [x]).length)), (2, .int (nI (hd_ 0 b2))), (0, .ref a), (1, .int k)]) hx hb d_tb_slotOf_44 hl (k := 3) rfl (inc_l b1 x) (by decide) rfl (fun ls hl => ?_)
        refine lv_goto (tgt := 13) hx hb d_tb_slotOf_47 (by decide) ?_
        exact ih (b1 ++ [x]) (by rw [eb]; simp) (fun y hy => by
            rcases List.mem_append.mp hy with h1 | h1
            · exact hb1 y h1
            · rw [List.mem_singleton.mp h1]; exact c1) ls (lv_sub hl [2, 3, 1, 0] rfl)
      · refine lv_iload_n hx hb d_tb_slotOf_35 rfl (lv_at hl 2 rfl) ?_
        exact cg_iret (u := ()) hQ hx hb hr hlk hK hP hD hS (by rw [sl_eq hKn hxR.1 c1]) d_tb_slotOf_36
  exact loop _ [] rfl (fun y hy => absurd hy List.not_mem_nil) ls (lv_sub hl [2, 3, 1, 0] rfl)
def mvI (b : Bool) : Int32 := if b then 1 else 0
set_option maxRecDepth 100000 in
set_option maxHeartbeats 4000000 in
/-- use(x) -/
theorem c_tb_use (l : Launch) (D : va_G) (cI cT cP : ClassId) (a : Nat) (mv : Bool) (qk qv qb qf qh qc n : Nat) (K V P N G C : Nat → Int32) (fl lm ct : Int32) (j mm : Nat) (R Fr : List Nat) (hTA : TA n j mm R Fr) (hTN : TN P N R) (hKn : (R.map K).Nodup) (x : Nat) (hxR : x ∈ R) : Cg l y_tb_use b_tb_use 2 (none) 1 0 0 D (ty3 cI cT cP) [.ref a, .int (nI x)] (tx cI a (mvI mv) ct qk qv qb qf qh qc n K V P N G C fl lm) (fun (v : Option Value) (u : (Nat → Int32) × (Nat → Int32)) => v = none ∧ ∃ R', R'.Perm R ∧ TN u.1 u.2 R' ∧ kv K V R' = us mv (K x) (kv K V R)) (fun u => tx cI a (mvI mv) ct qk qv qb qf qh qc n K V u.1 u.2 G C fl lm) := by
  refine cg_enter rfl (Nat.le_of_ble_eq_true rfl) ?_
  intro p e s m below meth c args hx hb hr hlk hml hown hin hts A hA hK hP hD hS ls hl Q hQ
  have hl : lv_has ls 2 [(0, .ref a), (1, .int (nI x))] := hl
  have hP : va_P D cls (tx cI a (mvI mv) ct qk qv qb qf qh qc n K V P N G C fl lm) s.heap := hP
  have hD : va_D A (tx cI a (mvI mv) ct qk qv qb qf qh qc n K V P N G C fl lm) := hD
  have hn : n < 2 ^ 31 := (ta_len hTA).2.2
  cases mv with
  | false =>
    refine lv_aload_n hx hb d_tb_use_0 rfl (lv_at hl 0 rfl) ?_
    refine va_get (D := D) (ci := 0) (v := .int (mvI false)) (C := R_tb) (T := F_tb) (N := 10) hx hb hts i_tb hown hK hP 0 rfl rfl 0 (by decide) (hts _ kf_tb_9) (fun _ h9 => h9) rfl d_tb_use_1 ?_
    refine lv_if_eq (tgt := 17) hx hb d_tb_use_4 (by decide) (fun _ => ?_) (fun z9 => absurd rfl z9)
    exact cg_vret (u := (P, N)) hQ hx hb hr hlk hK hP hD hS (⟨rfl, R, List.Perm.refl R, hTN, rfl⟩) d_tb_use_17
  | true =>
    obtain ⟨l1, l2, eR⟩ := List.append_of_mem hxR
    have nd0 : (0 :: (l1 ++ x :: l2)).Nodup := by rw [← eR]; exact ta_nd0 hTA
    have hb1 : ls_ 0 l1 < n := ta_ls hTA eR
    have hh1 : hd_ 0 l2 < n := ta_hd hTA (l1 := l1 ++ [x]) (by rw [eR]; simp)
    have hTN2 : TN P N (l1 ++ x :: l2) := by rw [← eR]; exact hTN
    obtain ⟨q1, q2, q3⟩ := tn_cut nd0 hTN2
    have nd3 : (0 :: (l1 ++ l2)).Nodup := List.Nodup.sublist (List.Sublist.cons_cons 0 (List.Sublist.append_left (List.sublist_cons_self ..) _)) nd0
    have hx3 : x ∉ 0 :: (l1 ++ l2) := by
      have h1 : (x :: (0 :: (l1 ++ l2))).Nodup := by
        have h2 : (x :: 0 :: (l1 ++ l2)).Perm (0 :: (l1 ++ x :: l2)) := (List.Perm.swap 0 x _).trans (List.Perm.cons 0 List.perm_middle.symm)
        exact h2.nodup_iff.mpr nd0
      exact (List.nodup_cons.mp h1).1
    obtain ⟨q4, q5⟩ := tn_add nd3 hx3 q3
    have hxn := ta_in hTA hxR
    have hg1 : ls_ 0 (l1 ++ l2) < n := by
      have h2 := ls_mem 0 (l1 ++ l2)
      rcases List.mem_cons.mp h2 with h3 | h3
      · omega
      · refine (ta_in hTA (x := ls_ 0 (l1 ++ l2)) ?_).2.2
        rw [eR]
        rcases List.mem_append.mp h3 with h4 | h4
        · exact List.mem_append_left _ h4
        · exact List.mem_append_right _ (List.mem_cons_of_mem _ h4)
    have hxb : x ≠ ls_ 0 l1 := by
      intro z9
      have h1 := ls_mem 0 l1
      rw [← z9] at h1
      refine hx3 ?_
      rcases List.mem_cons.mp h1 with h2 | h2
      · rw [h2]; exact List.mem_cons_self ..
      · exact List.mem_cons_of_mem _ (List.mem_append_left _ h2)
    refine lv_aload_n hx hb d_tb_use_0 rfl (lv_at hl 0 rfl) ?_
    refine va_get (D := D) (ci := 0) (v := .int (mvI true)) (C := R_tb) (T := F_tb) (N := 10) hx hb hts i_tb hown hK hP 0 rfl rfl 0 (by decide) (hts _ kf_tb_9) (fun _ h9 => h9) rfl d_tb_use_1 ?_
    refine lv_if_eq (tgt := 17) hx hb d_tb_use_4 (by decide) (fun z9 => absurd z9 (by decide)) (fun _ => ?_)
    refine lv_aload_n hx hb d_tb_use_7 rfl (lv_at hl 0 rfl) ?_
    refine lv_iload_n hx hb d_tb_use_8 rfl (lv_at hl 1 rfl) ?_
    refine cg_V (hn := 1) (As := [.int (nI x)]) (rest := []) (wr := []) (q0 := 0) (ci := 0) hx hb hml hown hts (c_tb_unlink l D cI cT cP a (mvI true) ct qk qv qb qf qh qc n K V P N G C fl lm hn x (ls_ 0 l1) (hd_ 0 l2) hxn.2.2 hb1 hh1 q1 q2 hxb) km_tb_107 ki_tb_unlink ks_tb_unlink kn_tb kc_tb_unlink (by decide +kernel) rfl ⟨Nat.le_of_ble_eq_true rfl, Nat.le_of_ble_eq_true rfl⟩ hK hP hD hS hA [0, 1, 2, 3, 4, 5, 6] [] rfl (by decide) rfl (by decide) (by decide) rfl rfl hl.1 rfl (Nat.le_of_ble_eq_true rfl) d_tb_use_9 ⟨Nat.le_refl _, Nat.le_refl _⟩ (fun v u H locs hpost hP hD hS => ?_)
    subst hpost
    refine W.eq (g2 := F0 m 12 ls []) rfl ?_
    have hP : va_P D cls (tx cI a (mvI true) ct qk qv qb qf qh qc n K V (upd P (hd_ 0 l2) (nI (ls_ 0 l1))) (upd N (ls_ 0 l1) (nI (hd_ 0 l2))) G C fl lm) H := hP
    have hD : va_D A (tx cI a (mvI true) ct qk qv qb qf qh qc n K V (upd P (hd_ 0 l2) (nI (ls_ 0 l1))) (upd N (ls_ 0 l1) (nI (hd_ 0 l2))) G C fl lm) := hD
    refine lv_aload_n hx hb d_tb_use_12 rfl (lv_at hl 0 rfl) ?_
    refine lv_iload_n hx hb d_tb_use_13 rfl (lv_at hl 1 rfl) ?_
    refine cg_V (hn := 1) (As := [.int (nI x)]) (rest := []) (wr := []) (q0 := 0) (ci := 0) hx hb hml hown hts (c_tb_linkLast l D cI cT cP a (mvI true) ct qk qv qb qf qh qc n K V (upd P (hd_ 0 l2) (nI (ls_ 0 l1))) (upd N (ls_ 0 l1) (nI (hd_ 0 l2))) G C fl lm hn x (ls_ 0 (l1 ++ l2)) hxn.2.2 hg1 q4) km_tb_101 ki_tb_linkLast ks_tb_linkLast kn_tb kc_tb_linkLast (by decide +kernel) rfl ⟨Nat.le_of_ble_eq_true rfl, Nat.le_of_ble_eq_true rfl⟩ hK hP hD hS hA [0, 1, 2, 3, 4, 5, 6] [] rfl (by decide) rfl (by decide) (by decide) rfl rfl hl.1 rfl (Nat.le_of_ble_eq_true rfl) d_tb_use_14 ⟨Nat.le_refl _, Nat.le_refl _⟩ (fun v u H locs hpost hP hD hS => ?_)
    subst hpost
    refine W.eq (g2 := F0 m 17 ls []) rfl ?_
    have hP : va_P D cls (tx cI a (mvI true) ct qk qv qb qf qh qc n K V (upd (upd (upd P (hd_ 0 l2) (nI (ls_ 0 l1))) x (nI (ls_ 0 (l1 ++ l2)))) 0 (nI x)) (upd (upd (upd N (ls_ 0 l1) (nI (hd_ 0 l2))) (ls_ 0 (l1 ++ l2)) (nI x)) x 0) G C fl lm) H := hP
    have hD : va_D A (tx cI a (mvI true) ct qk qv qb qf qh qc n K V (upd (upd (upd P (hd_ 0 l2) (nI (ls_ 0 l1))) x (nI (ls_ 0 (l1 ++ l2)))) 0 (nI x)) (upd (upd (upd N (ls_ 0 l1) (nI (hd_ 0 l2))) (ls_ 0 (l1 ++ l2)) (nI x)) x 0) G C fl lm) := hD
    have hk2 := kv_split (K := K) (V := V) (l1 := l1) (l2 := l2) (x := x) (by rw [← eR]; exact hKn)
    exact cg_vret (u := ((upd (upd (upd P (hd_ 0 l2) (nI (ls_ 0 l1))) x (nI (ls_ 0 (l1 ++ l2)))) 0 (nI x)), (upd (upd (upd N (ls_ 0 l1) (nI (hd_ 0 l2))) (ls_ 0 (l1 ++ l2)) (nI x)) x 0))) hQ hx hb hr hlk hK hP hD hS (⟨rfl, (l1 ++ l2) ++ [x], (by rw [eR]; exact (List.perm_append_singleton x _).trans List.perm_middle.symm), q5, (by rw [eR]; unfold us; rw [hk2.1, hk2.2.1]; simp [kv])⟩) d_tb_use_17
set_option maxRecDepth 100000 in
set_option maxHeartbeats 4000000 in
/-- unhook(x) -/
theorem c_tb_unhook (l : Launch) (D : va_G) (cI cT cP : ClassId) (a : Nat) (mv : Int32) (qk qv qb qf qh qc n : Nat) (K V P N G C : Nat → Int32) (fl lm : Int32) (j mm : Nat) (R Fr : List Nat) (bl : Nat → List Nat) (hTA : TA n j mm R Fr) (hTH : TH n K G C fl R Fr bl) (hKn : (R.map K).Nodup) (x : Nat) (hxR : x ∈ R) (c1 c2 : List Nat) (hc12 : bl (hof n (K x)) = c1 ++ x :: c2) : Cg l y_tb_unhook b_tb_unhook 5 (none) 1 0 0 D (ty3 cI cT cP) [.ref a, .int (nI x)] (tx cI a mv (nI R.length) qk qv qb qf qh qc n K V P N G C fl lm) (fun (v : Option Value) (u : Unit) => v = none) (fun u => tx cI a mv (nI R.length) qk qv qb qf qh qc n K V P N (cG G C (hof n (K x)) x c1) (cC C x c1) fl lm) := by
  have hn : n < 2 ^ 31 := (ta_len hTA).2.2
  have hRl : R.length < 2 ^ 31 := (ta_len hTA).2.1
  have et : n = 2 ^ (4 + j) := hTA.1.1
  have ht : 4 + j ≤ 30 := by have := hTA.1.2; omega
  have hz : hof n (K x) < n := hof_lt (by have := ta_n hTA; omega) _
  have hxn := ta_in hTA hxR
  have hin2 : ∀ y, y ∈ c1 ++ x :: c2 → y ∈ R := fun y hy => ((th_bl hTH hz).mp (by rw [hc12]; exact hy)).1
  have ndc : (c1 ++ x :: c2).Nodup := by rw [← hc12]; exact th_nd hTH (ta_nd hTA) hz
  have h0 : sg C (G (hof n (K x))) (c1 ++ x :: c2) 0 := by rw [← hc12]; exact (hTH.2 _ hz).1
  have hle : (c1 ++ x :: c2).length ≤ R.length := by rw [← hc12]; exact th_len hTH hz
  refine cg_enter rfl (Nat.le_of_ble_eq_true rfl) ?_
  intro p e s m below meth c args hx hb hr hlk hml hown hin hts A hA hK hP hD hS ls hl Q hQ
  have hl : lv_has ls 5 [(0, .ref a), (1, .int (nI x))] := hl
  have hP : va_P D cls (tx cI a mv (nI R.length) qk qv qb qf qh qc n K V P N G C fl lm) s.heap := hP
  have hD : va_D A (tx cI a mv (nI R.length) qk qv qb qf qh qc n K V P N G C fl lm) := hD
  refine lv_aload_n hx hb d_tb_unhook_0 rfl (lv_at hl 0 rfl) ?_
  refine lv_aload_n hx hb d_tb_unhook_1 rfl (lv_at hl 0 rfl) ?_
  refine va_get (D := D) (ci := 0) (v := .ref qk) (C := R_tb) (T := F_tb) (N := 10) hx hb hts i_tb hown hK hP 0 rfl rfl 2 (by decide) (hts _ kf_tb_15) (fun _ h9 => h9) rfl d_tb_unhook_2 ?_
  refine lv_iload_n hx hb d_tb_unhook_5 rfl (lv_at hl 1 rfl) ?_
  refine wa_ld (k := x) hx hb hK hP 1 0 rfl rfl hxn.2.2 hn d_tb_unhook_6 ?_
  refine cg_V (hn := 1) (As := [.int (K x)]) (rest := []) (wr := []) (q0 := 0) (ci := 0) hx hb hml hown hts (c_tb_headOf l D cI cT cP a mv (nI R.length) qk qv qb qf qh qc n K V P N G C fl lm hn (4 + j) et ht (K x)) km_tb_87 ki_tb_headOf ks_tb_headOf kn_tb kc_tb_headOf (by decide +kernel) rfl ⟨Nat.le_of_ble_eq_true rfl, Nat.le_of_ble_eq_true rfl⟩ hK hP hD hS hA [0, 1, 2, 3, 4, 5, 6] [] rfl (by decide) rfl (by decide) (by decide) rfl rfl hl.1 rfl (Nat.le_of_ble_eq_true rfl) d_tb_unhook_7 ⟨Nat.le_refl _, Nat.le_refl _⟩ (fun v u H locs hpost hP hD hS => ?_)
  subst hpost
  refine W.eq (g2 := F0 m 10 ls [.int (nI (hof n (K x)))]) rfl ?_
  have hP : va_P D cls (tx cI a mv (nI R.length) qk qv qb qf qh qc n K V P N G C fl lm) H := hP
  have hD : va_D A (tx cI a mv (nI R.length) qk qv qb qf qh qc n K V P N G C fl lm) := hD
  cases c1 with
  | nil =>
    refine lv_istore_n (lv' := [(2, .int (nI (hof n (K x)))), (0, .ref a), (1, .int (nI x))]) hx hb d_tb_unhook_10 rfl hl (by decide) rfl (fun ls hl => ?_)
    refine lv_aload_n hx hb d_tb_unhook_11 rfl (lv_at hl 1 rfl) ?_
    refine va_get (D := D) (ci := 0) (v := .ref qh) (C := R_tb) (T := F_tb) (N := 10) hx hb hts i_tb hown hK hP 0 rfl rfl 6 (by decide) (hts _ kf_tb_28) (fun _ h9 => h9) rfl d_tb_unhook_12 ?_
    refine lv_iload_n hx hb d_tb_unhook_15 rfl (lv_at hl 0 rfl) ?_
    refine wa_ld (k := hof n (K x)) hx hb hK hP 5 0 rfl rfl hz hn d_tb_unhook_16 ?_
    refine tp_i (y := nI x) h0.1 ?_
    refine lv_istore_n (lv' := [(3, .int (nI x)), (2, .int (nI (hof n (K x)))), (0, .ref a), (1, .int (nI x))]) hx hb d_tb_unhook_17 rfl hl (by decide) rfl (fun ls hl => ?_)
    refine lv_iload_n hx hb d_tb_unhook_18 rfl (lv_at hl 0 rfl) ?_
    refine lv_iload_n hx hb d_tb_unhook_19 rfl (lv_at hl 3 rfl) ?_
    refine lv_icmp_ne (tgt := 36) hx hb d_tb_unhook_20 (by decide) (fun z9 => absurd rfl z9) (fun _ => ?_)
    refine lv_aload_n hx hb d_tb_unhook_23 rfl (lv_at hl 2 rfl) ?_
    refine va_get (D := D) (ci := 0) (v := .ref qh) (C := R_tb) (T := F_tb) (N := 10) hx hb hts i_tb hown hK hP 0 rfl rfl 6 (by decide) (hts _ kf_tb_28) (fun _ h9 => h9) rfl d_tb_unhook_24 ?_
    refine lv_iload_n hx hb d_tb_unhook_27 rfl (lv_at hl 1 rfl) ?_
    refine lv_aload_n hx hb d_tb_unhook_28 rfl (lv_at hl 2 rfl) ?_
    refine va_get (D := D) (ci := 0) (v := .ref qc) (C := R_tb) (T := F_tb) (N := 10) hx hb hts i_tb hown hK hP 0 rfl rfl 7 (by decide) (hts _ kf_tb_31) (fun _ h9 => h9) rfl d_tb_unhook_29 ?_
    refine lv_iload_n hx hb d_tb_unhook_32 rfl (lv_at hl 3 rfl) ?_
    refine wa_ld (k := x) hx hb hK hP 6 0 rfl rfl hxn.2.2 hn d_tb_unhook_33 ?_
    refine wa_st (k := hof n (K x)) (x := (C x)) hx hb hK hP hD hS 5 0 rfl rfl hz hn d_tb_unhook_34 (fun H locs hP hD hS => ?_)
    have hP : va_P D cls (tx cI a mv (nI R.length) qk qv qb qf qh qc n K V P N (upd G (hof n (K x)) (C x)) C fl lm) H := hP
    have hD : va_D A (tx cI a mv (nI R.length) qk qv qb qf qh qc n K V P N (upd G (hof n (K x)) (C x)) C fl lm) := hD
    exact cg_vret (u := ()) hQ hx hb hr hlk hK hP hD hS rfl d_tb_unhook_35
  | cons y0 t0 =>
    have hy0 : ∀ (d1 : List Nat) (y : Nat) (d2 : List Nat), y0 :: t0 = d1 ++ y :: d2 → y ≠ x := fun d1 y d2 e9 z9 => by
      have h1 := (List.nodup_append.mp ndc).2.2 y (by rw [e9]; exact List.mem_append_right _ (List.mem_cons_self ..)) x (List.mem_cons_self ..)
      exact h1 z9
    refine lv_istore_n (lv' := [(2, .int (nI (hof n (K x)))), (0, .ref a), (1, .int (nI x))]) hx hb d_tb_unhook_10 rfl hl (by decide) rfl (fun ls hl => ?_)
    refine lv_aload_n hx hb d_tb_unhook_11 rfl (lv_at hl 1 rfl) ?_
    refine va_get (D := D) (ci := 0) (v := .ref qh) (C := R_tb) (T := F_tb) (N := 10) hx hb hts i_tb hown hK hP 0 rfl rfl 6 (by decide) (hts _ kf_tb_28) (fun _ h9 => h9) rfl d_tb_unhook_12 ?_
    refine lv_iload_n hx hb d_tb_unhook_15 rfl (lv_at hl 0 rfl) ?_
    refine wa_ld (k := hof n (K x)) hx hb hK hP 5 0 rfl rfl hz hn d_tb_unhook_16 ?_
    refine tp_i (y := nI y0) h0.1 ?_
    refine lv_istore_n (lv' := [(3, .int (nI y0)), (2, .int (nI (hof n (K x)))), (0, .ref a), (1, .int (nI x))]) hx hb d_tb_unhook_17 rfl hl (by decide) rfl (fun ls hl => ?_)
    refine lv_iload_n hx hb d_tb_unhook_18 rfl (lv_at hl 0 rfl) ?_
    refine lv_iload_n hx hb d_tb_unhook_19 rfl (lv_at hl 3 rfl) ?_
    refine lv_icmp_ne (tgt := 36) hx hb d_tb_unhook_20 (by decide) (fun _ => ?_) (fun z9 => absurd z9 (fun z9 => hy0 [] y0 t0 rfl ((nI_eq (by have := (ta_in hTA (hin2 y0 (List.mem_cons_self ..))).2.2; omega) (by omega)).mp z9)))
    refine lv_iconst (v := 0) hx hb d_tb_unhook_36 (by decide) ?_
    refine lv_istore (lv' := [(4, .int 0), (3, .int (nI y0)), (2, .int (nI (hof n (K x)))), (0, .ref a), (1, .int (nI x))]) hx hb d_tb_unhook_37 hl (by decide) rfl (fun ls hl => ?_)
    have loop : ∀ (d2 : List Nat) (d1 : List Nat) (y : Nat), y0 :: t0 = d1 ++ y :: d2 → ∀ ls : Array Slot, lv_has ls 5 [(0, .ref a), (1, .int (nI x)), (2, .int (nI (hof n (K x)))), (3, .int (nI y)), (4, .int (nI d1.length))] → W p l e (rmL 1 0 0) s m args below meth c H locs 0 0 Q (F0 m 39 ls []) := by
      intro d2
      induction d2 with
      | nil =>
        intro d1 y ed ls hl
        have hyR : y ∈ R := hin2 y (List.mem_append_left _ (by rw [ed]; exact List.mem_append_right _ (List.mem_cons_self ..)))
        have hyn := ta_in hTA hyR
        have hlt : d1.length < R.length := by
          have h1 := hle
          rw [ed] at h1
          simp only [List.length_append, List.length_cons] at h1
          omega
        have h1 : sg C (G (hof n (K x))) (d1 ++ y :: ([] ++ x :: c2)) 0 := by
          have h2 := h0
          rw [ed] at h2
          simpa using h2
        have h2 := (sg_app.mp h1).2
        refine lv_iload hx hb d_tb_unhook_39 (lv_at hl 4 rfl) ?_
        refine lv_aload_n hx hb d_tb_unhook_41 rfl (lv_at hl 0 rfl) ?_
        refine va_get (D := D) (ci := 0) (v := .int (nI R.length)) (C := R_tb) (T := F_tb) (N := 10) hx hb hts i_tb hown hK hP 0 rfl rfl 1 (by decide) (hts _ kf_tb_52) (fun _ h9 => h9) rfl d_tb_unhook_42 ?_
        refine lv_icmp_ge (tgt := 88) hx hb d_tb_unhook_45 (by decide) (fun z9 => absurd z9 (nI_ge hlt hRl)) (fun _ => ?_)
        refine lv_iload_n hx hb d_tb_unhook_48 rfl (lv_at hl 3 rfl) ?_
        refine lv_if_eq (tgt := 88) hx hb d_tb_unhook_49 (by decide) (fun z9 => absurd z9 (nI_ne0 hyn.1 (by omega))) (fun _ => ?_)
        refine lv_aload_n hx hb d_tb_unhook_52 rfl (lv_at hl 0 rfl) ?_
        refine va_get (D := D) (ci := 0) (v := .ref qc) (C := R_tb) (T := F_tb) (N := 10) hx hb hts i_tb hown hK hP 0 rfl rfl 7 (by decide) (hts _ kf_tb_31) (fun _ h9 => h9) rfl d_tb_unhook_53 ?_
        refine lv_iload_n hx hb d_tb_unhook_56 rfl (lv_at hl 3 rfl) ?_
        refine wa_ld (k := y) hx hb hK hP 6 0 rfl rfl hyn.2.2 hn d_tb_unhook_57 ?_
        refine tp_i (y := nI x) h2.1 ?_
        refine lv_iload_n hx hb d_tb_unhook_58 rfl (lv_at hl 1 rfl) ?_
        refine lv_icmp_ne (tgt := 75) hx hb d_tb_unhook_59 (by decide) (fun z9 => absurd rfl z9) (fun _ => ?_)
        have ely : ls_ y0 t0 = y := by
          have h3 : ls_ 0 (y0 :: t0) = ls_ 0 (d1 ++ [y]) := by rw [ed]
          rw [ls_snoc] at h3
          exact h3
        refine lv_aload_n hx hb d_tb_unhook_62 rfl (lv_at hl 0 rfl) ?_
        refine va_get (D := D) (ci := 0) (v := .ref qc) (C := R_tb) (T := F_tb) (N := 10) hx hb hts i_tb hown hK hP 0 rfl rfl 7 (by decide) (hts _ kf_tb_31) (fun _ h9 => h9) rfl d_tb_unhook_63 ?_
        refine lv_iload_n hx hb d_tb_unhook_66 rfl (lv_at hl 3 rfl) ?_
        refine lv_aload_n hx hb d_tb_unhook_67 rfl (lv_at hl 0 rfl) ?_
        refine va_get (D := D) (ci := 0) (v := .ref qc) (C := R_tb) (T := F_tb) (N := 10) hx hb hts i_tb hown hK hP 0 rfl rfl 7 (by decide) (hts _ kf_tb_31) (fun _ h9 => h9) rfl d_tb_unhook_68 ?_
        refine lv_iload_n hx hb d_tb_unhook_71 rfl (lv_at hl 1 rfl) ?_
        refine wa_ld (k := x) hx hb hK hP 6 0 rfl rfl hxn.2.2 hn d_tb_unhook_72 ?_
        refine wa_st (k := y) (x := (C x)) hx hb hK hP hD hS 6 0 rfl rfl hyn.2.2 hn d_tb_unhook_73 (fun H locs hP hD hS => ?_)
        have hP : va_P D cls (tx cI a mv (nI R.length) qk qv qb qf qh qc n K V P N G (upd C y (C x)) fl lm) H := hP
        have hD : va_D A (tx cI a mv (nI R.length) qk qv qb qf qh qc n K V P N G (upd C y (C x)) fl lm) := hD
        rw [← ely] at hP hD
        exact cg_vret (u := ()) hQ hx hb hr hlk hK hP hD hS rfl d_tb_unhook_74
      | cons y2 d2 ih =>
        intro d1 y ed ls hl
        have hyR : y ∈ R := hin2 y (List.mem_append_left _ (by rw [ed]; exact List.mem_append_right _ (List.mem_cons_self ..)))
        have hyn := ta_in hTA hyR
        have hlt : d1.length < R.length := by
          have h1 := hle
          rw [ed] at h1
          simp only [List.length_append, List.length_cons] at h1
          omega
        have h1 : sg C (G (hof n (K x))) (d1 ++ y :: ((y2 :: d2) ++ x :: c2)) 0 := by
          have h2 := h0
          rw [ed] at h2
          simpa using h2
        have h2 := (sg_app.mp h1).2
        refine lv_iload hx hb d_tb_unhook_39 (lv_at hl 4 rfl) ?_
        refine lv_aload_n hx hb d_tb_unhook_41 rfl (lv_at hl 0 rfl) ?_
        refine va_get (D := D) (ci := 0) (v := .int (nI R.length)) (C := R_tb) (T := F_tb) (N := 10) hx hb hts i_tb hown hK hP 0 rfl rfl 1 (by decide) (hts _ kf_tb_52) (fun _ h9 => h9) rfl d_tb_unhook_42 ?_
        refine lv_icmp_ge (tgt := 88) hx hb d_tb_unhook_45 (by decide) (fun z9 => absurd z9 (nI_ge hlt hRl)) (fun _ => ?_)
        refine lv_iload_n hx hb d_tb_unhook_48 rfl (lv_at hl 3 rfl) ?_
        refine lv_if_eq (tgt := 88) hx hb d_tb_unhook_49 (by decide) (fun z9 => absurd z9 (nI_ne0 hyn.1 (by omega))) (fun _ => ?_)
        have hy2 : y2 ≠ x := hy0 (d1 ++ [y]) y2 d2 (by rw [ed]; simp)
        have hy2R := ta_in hTA (hin2 y2 (List.mem_append_left _ (by rw [ed]; simp)))
        refine lv_aload_n hx hb d_tb_unhook_52 rfl (lv_at hl 0 rfl) ?_
        refine va_get (D := D) (ci := 0) (v := .ref qc) (C := R_tb) (T := F_tb) (N := 10) hx hb hts i_tb hown hK hP 0 rfl rfl 7 (by decide) (hts _ kf_tb_31) (fun _ h9 => h9) rfl d_tb_unhook_53 ?_
        refine lv_iload_n hx hb d_tb_unhook_56 rfl (lv_at hl 3 rfl) ?_
        refine wa_ld (k := y) hx hb hK hP 6 0 rfl rfl hyn.2.2 hn d_tb_unhook_57 ?_
        refine tp_i (y := nI y2) h2.1 ?_
        refine lv_iload_n hx hb d_tb_unhook_58 rfl (lv_at hl 1 rfl) ?_
        refine lv_icmp_ne (tgt := 75) hx hb d_tb_unhook_59 (by decide) (fun _ => ?_) (fun z9 => absurd z9 (fun z9 => hy2 ((nI_eq (by omega) (by omega)).mp z9)))
        refine lv_aload_n hx hb d_tb_unhook_75 rfl (lv_at hl 0 rfl) ?_
        refine va_get (D := D) (ci := 0) (v := .ref qc) (C := R_tb) (T := F_tb) (N := 10) hx hb hts i_tb hown hK hP 0 rfl rfl 7 (by decide) (hts _ kf_tb_31) (fun _ h9 => h9) rfl d_tb_unhook_76 ?_
        refine lv_iload_n hx hb d_tb_unhook_79 rfl (lv_at hl 3 rfl) ?_
        refine wa_ld (k := y) hx hb hK hP 6 0 rfl rfl hyn.2.2 hn d_tb_unhook_80 ?_
        refine tp_i (y := nI y2) h2.1 ?_
        refine lv_istore_n (lv' := [(3, .int (nI y2)), (0, .ref a), (1, .int (nI x)), (2, .int (nI (hof n (K x)))), (4, .int (nI d1.length))]) hx hb d_tb_unhook_81 rfl hl (by decide) rfl (fun ls hl => ?_)
        refine lv_iinc (v := nI (d1 ++ [y]).length) (lv' := [(4, .int (nI (d1 ++ [y]).length)), (3, .int (nI y2)), (0, .ref a), (1, .int (nI x)), (2, .int (nI (hof n (K x))))]) hx hb d_tb_unhook_82 hl (k := 4) rfl (inc_l d1 y) (by decide) rfl (fun ls hl => ?_)
        refine lv_goto (tgt := 39) hx hb d_tb_unhook_85 (by decide) ?_
        exact ih (d1 ++ [y]) y2 (by rw [ed]; simp) ls (lv_sub hl [2, 3, 4, 1, 0] rfl)
    exact loop t0 [] y0 rfl ls (lv_sub hl [3, 4, 2, 1, 0] rfl)
