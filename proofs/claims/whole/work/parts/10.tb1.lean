-- Table, the leaves: printed by wip/whole/gen/tb1.py
/-- a Table: its object and its six rows -/
abbrev tx (cI : ClassId) (a : Nat) (mv ct : Int32) (qk qv qb qf qh qc n : Nat) (K V P N G C : Nat → Int32) (fl lm : Int32) : va_W := [(a, .inr (0, [.int mv, .int ct, .ref qk, .ref qv, .ref qb, .ref qf, .ref qh, .ref qc, .int fl, .int lm])), (qk, .inl (cI, n, .inl K)), (qv, .inl (cI, n, .inl V)), (qb, .inl (cI, n, .inl P)), (qf, .inl (cI, n, .inl N)), (qh, .inl (cI, n, .inl G)), (qc, .inl (cI, n, .inl C))]
set_option maxRecDepth 100000 in
set_option maxHeartbeats 4000000 in
/-- unlink(i): the neighbours of i are tied -/
theorem c_tb_unlink (l : Launch) (D : va_G) (cI cT cP : ClassId) (a : Nat) (mv ct : Int32) (qk qv qb qf qh qc n : Nat) (K V P N G C : Nat → Int32) (fl lm : Int32) (hn : n < 2 ^ 31) (i b h : Nat) (hi : i < n) (hbn : b < n) (hhn : h < n) (eb : P i = nI b) (eh : N i = nI h) (hib : i ≠ b) : Cg l y_tb_unlink b_tb_unlink 2 (none) 0 0 0 D (ty3 cI cT cP) [.ref a, .int (nI i)] (tx cI a mv ct qk qv qb qf qh qc n K V P N G C fl lm) (fun (v : Option Value) (u : Unit) => v = none) (fun u => tx cI a mv ct qk qv qb qf qh qc n K V (upd P h (nI b)) (upd N b (nI h)) G C fl lm) := by
  refine cg_enter rfl (Nat.le_of_ble_eq_true rfl) ?_
  intro p e s m below meth c args hx hb hr hlk hml hown hin hts A hA hK hP hD hS ls hl Q hQ
  have hl : lv_has ls 2 [(0, .ref a), (1, .int (nI i))] := hl
  have hP : va_P D cls (tx cI a mv ct qk qv qb qf qh qc n K V P N G C fl lm) s.heap := hP
  have hD : va_D A (tx cI a mv ct qk qv qb qf qh qc n K V P N G C fl lm) := hD
  refine lv_aload_n hx hb d_tb_unlink_0 rfl (lv_at hl 0 rfl) ?_
  refine va_get (D := D) (ci := 0) (v := .ref qf) (C := R_tb) (T := F_tb) (N := 10) hx hb hts i_tb hown hK hP 0 rfl rfl 5 (by decide) (hts _ kf_tb_25) (fun _ h9 => h9) rfl d_tb_unlink_1 ?_
  refine lv_aload_n hx hb d_tb_unlink_4 rfl (lv_at hl 0 rfl) ?_
  refine va_get (D := D) (ci := 0) (v := .ref qb) (C := R_tb) (T := F_tb) (N := 10) hx hb hts i_tb hown hK hP 0 rfl rfl 4 (by decide) (hts _ kf_tb_22) (fun _ h9 => h9) rfl d_tb_unlink_5 ?_
  refine lv_iload_n hx hb d_tb_unlink_8 rfl (lv_at hl 1 rfl) ?_
  refine wa_ld (k := i) hx hb hK hP 3 0 rfl rfl hi hn d_tb_unlink_9 ?_
  refine tp_i (y := nI b) eb ?_
  refine lv_aload_n hx hb d_tb_unlink_10 rfl (lv_at hl 0 rfl) ?_
  refine va_get (D := D) (ci := 0) (v := .ref qf) (C := R_tb) (T := F_tb) (N := 10) hx hb hts i_tb hown hK hP 0 rfl rfl 5 (by decide) (hts _ kf_tb_25) (fun _ h9 => h9) rfl d_tb_unlink_11 ?_
  refine lv_iload_n hx hb d_tb_unlink_14 rfl (lv_at hl 1 rfl) ?_
  refine wa_ld (k := i) hx hb hK hP 4 0 rfl rfl hi hn d_tb_unlink_15 ?_
  refine tp_i (y := nI h) eh ?_
  refine wa_st (k := b) (x := (nI h)) hx hb hK hP hD hS 4 0 rfl rfl hbn hn d_tb_unlink_16 (fun H locs hP hD hS => ?_)
  have hP : va_P D cls (tx cI a mv ct qk qv qb qf qh qc n K V P (upd N b (nI h)) G C fl lm) H := hP
  have hD : va_D A (tx cI a mv ct qk qv qb qf qh qc n K V P (upd N b (nI h)) G C fl lm) := hD
  refine lv_aload_n hx hb d_tb_unlink_17 rfl (lv_at hl 0 rfl) ?_
  refine va_get (D := D) (ci := 0) (v := .ref qb) (C := R_tb) (T := F_tb) (N := 10) hx hb hts i_tb hown hK hP 0 rfl rfl 4 (by decide) (hts _ kf_tb_22) (fun _ h9 => h9) rfl d_tb_unlink_18 ?_
  refine lv_aload_n hx hb d_tb_unlink_21 rfl (lv_at hl 0 rfl) ?_
  refine va_get (D := D) (ci := 0) (v := .ref qf) (C := R_tb) (T := F_tb) (N := 10) hx hb hts i_tb hown hK hP 0 rfl rfl 5 (by decide) (hts _ kf_tb_25) (fun _ h9 => h9) rfl d_tb_unlink_22 ?_
  refine lv_iload_n hx hb d_tb_unlink_25 rfl (lv_at hl 1 rfl) ?_
  refine wa_ld (k := i) hx hb hK hP 4 0 rfl rfl hi hn d_tb_unlink_26 ?_
  refine tp_i (y := nI h) ((pk_un hib).trans eh) ?_
  refine lv_aload_n hx hb d_tb_unlink_27 rfl (lv_at hl 0 rfl) ?_
  refine va_get (D := D) (ci := 0) (v := .ref qb) (C := R_tb) (T := F_tb) (N := 10) hx hb hts i_tb hown hK hP 0 rfl rfl 4 (by decide) (hts _ kf_tb_22) (fun _ h9 => h9) rfl d_tb_unlink_28 ?_
  refine lv_iload_n hx hb d_tb_unlink_31 rfl (lv_at hl 1 rfl) ?_
  refine wa_ld (k := i) hx hb hK hP 3 0 rfl rfl hi hn d_tb_unlink_32 ?_
  refine tp_i (y := nI b) eb ?_
  refine wa_st (k := h) (x := (nI b)) hx hb hK hP hD hS 3 0 rfl rfl hhn hn d_tb_unlink_33 (fun H locs hP hD hS => ?_)
  have hP : va_P D cls (tx cI a mv ct qk qv qb qf qh qc n K V (upd P h (nI b)) (upd N b (nI h)) G C fl lm) H := hP
  have hD : va_D A (tx cI a mv ct qk qv qb qf qh qc n K V (upd P h (nI b)) (upd N b (nI h)) G C fl lm) := hD
  exact cg_vret (u := ()) hQ hx hb hr hlk hK hP hD hS rfl d_tb_unlink_34
set_option maxRecDepth 100000 in
set_option maxHeartbeats 4000000 in
/-- linkLast(i): i comes behind the last one -/
theorem c_tb_linkLast (l : Launch) (D : va_G) (cI cT cP : ClassId) (a : Nat) (mv ct : Int32) (qk qv qb qf qh qc n : Nat) (K V P N G C : Nat → Int32) (fl lm : Int32) (hn : n < 2 ^ 31) (i b : Nat) (hi : i < n) (hbn : b < n) (eb : P 0 = nI b) : Cg l y_tb_linkLast b_tb_linkLast 3 (none) 0 0 0 D (ty3 cI cT cP) [.ref a, .int (nI i)] (tx cI a mv ct qk qv qb qf qh qc n K V P N G C fl lm) (fun (v : Option Value) (u : Unit) => v = none) (fun u => tx cI a mv ct qk qv qb qf qh qc n K V (upd (upd P i (nI b)) 0 (nI i)) (upd (upd N b (nI i)) i 0) G C fl lm) := by
  refine cg_enter rfl (Nat.le_of_ble_eq_true rfl) ?_
  intro p e s m below meth c args hx hb hr hlk hml hown hin hts A hA hK hP hD hS ls hl Q hQ
  have hl : lv_has ls 3 [(0, .ref a), (1, .int (nI i))] := hl
  have hP : va_P D cls (tx cI a mv ct qk qv qb qf qh qc n K V P N G C fl lm) s.heap := hP
  have hD : va_D A (tx cI a mv ct qk qv qb qf qh qc n K V P N G C fl lm) := hD
  refine lv_aload_n hx hb d_tb_linkLast_0 rfl (lv_at hl 0 rfl) ?_
  refine va_get (D := D) (ci := 0) (v := .ref qb) (C := R_tb) (T := F_tb) (N := 10) hx hb hts i_tb hown hK hP 0 rfl rfl 4 (by decide) (hts _ kf_tb_22) (fun _ h9 => h9) rfl d_tb_linkLast_1 ?_
  refine lv_iconst (v := 0) hx hb d_tb_linkLast_4 (by decide) ?_
  refine wa_ld (k := 0) hx hb hK hP 3 0 rfl rfl (Nat.lt_of_le_of_lt (Nat.zero_le i) hi) hn d_tb_linkLast_5 ?_
  refine tp_i (y := nI b) eb ?_
  refine lv_istore_n (lv' := [(2, .int (nI b)), (0, .ref a), (1, .int (nI i))]) hx hb d_tb_linkLast_6 rfl hl (by decide) rfl (fun ls hl => ?_)
  refine lv_aload_n hx hb d_tb_linkLast_7 rfl (lv_at hl 1 rfl) ?_
  refine va_get (D := D) (ci := 0) (v := .ref qf) (C := R_tb) (T := F_tb) (N := 10) hx hb hts i_tb hown hK hP 0 rfl rfl 5 (by decide) (hts _ kf_tb_25) (fun _ h9 => h9) rfl d_tb_linkLast_8 ?_
  refine lv_iload_n hx hb d_tb_linkLast_11 rfl (lv_at hl 0 rfl) ?_
  refine lv_iload_n hx hb d_tb_linkLast_12 rfl (lv_at hl 2 rfl) ?_
  refine wa_st (k := b) (x := (nI i)) hx hb hK hP hD hS 4 0 rfl rfl hbn hn d_tb_linkLast_13 (fun H locs hP hD hS => ?_)
  have hP : va_P D cls (tx cI a mv ct qk qv qb qf qh qc n K V P (upd N b (nI i)) G C fl lm) H := hP
  have hD : va_D A (tx cI a mv ct qk qv qb qf qh qc n K V P (upd N b (nI i)) G C fl lm) := hD
  refine lv_aload_n hx hb d_tb_linkLast_14 rfl (lv_at hl 1 rfl) ?_
  refine va_get (D := D) (ci := 0) (v := .ref qb) (C := R_tb) (T := F_tb) (N := 10) hx hb hts i_tb hown hK hP 0 rfl rfl 4 (by decide) (hts _ kf_tb_22) (fun _ h9 => h9) rfl d_tb_linkLast_15 ?_
  refine lv_iload_n hx hb d_tb_linkLast_18 rfl (lv_at hl 2 rfl) ?_
  refine lv_iload_n hx hb d_tb_linkLast_19 rfl (lv_at hl 0 rfl) ?_
  refine wa_st (k := i) (x := (nI b)) hx hb hK hP hD hS 3 0 rfl rfl hi hn d_tb_linkLast_20 (fun H locs hP hD hS => ?_)
  have hP : va_P D cls (tx cI a mv ct qk qv qb qf qh qc n K V (upd P i (nI b)) (upd N b (nI i)) G C fl lm) H := hP
  have hD : va_D A (tx cI a mv ct qk qv qb qf qh qc n K V (upd P i (nI b)) (upd N b (nI i)) G C fl lm) := hD
  refine lv_aload_n hx hb d_tb_linkLast_21 rfl (lv_at hl 1 rfl) ?_
  refine va_get (D := D) (ci := 0) (v := .ref qf) (C := R_tb) (T := F_tb) (N := 10) hx hb hts i_tb hown hK hP 0 rfl rfl 5 (by decide) (hts _ kf_tb_25) (fun _ h9 => h9) rfl d_tb_linkLast_22 ?_
  refine lv_iload_n hx hb d_tb_linkLast_25 rfl (lv_at hl 2 rfl) ?_
  refine lv_iconst (v := 0) hx hb d_tb_linkLast_26 (by decide) ?_
  refine wa_st (k := i) (x := 0) hx hb hK hP hD hS 4 0 rfl rfl hi hn d_tb_linkLast_27 (fun H locs hP hD hS => ?_)
  have hP : va_P D cls (tx cI a mv ct qk qv qb qf qh qc n K V (upd P i (nI b)) (upd (upd N b (nI i)) i 0) G C fl lm) H := hP
  have hD : va_D A (tx cI a mv ct qk qv qb qf qh qc n K V (upd P i (nI b)) (upd (upd N b (nI i)) i 0) G C fl lm) := hD
  refine lv_aload_n hx hb d_tb_linkLast_28 rfl (lv_at hl 1 rfl) ?_
  refine va_get (D := D) (ci := 0) (v := .ref qb) (C := R_tb) (T := F_tb) (N := 10) hx hb hts i_tb hown hK hP 0 rfl rfl 4 (by decide) (hts _ kf_tb_22) (fun _ h9 => h9) rfl d_tb_linkLast_29 ?_
  refine lv_iconst (v := 0) hx hb d_tb_linkLast_32 (by decide) ?_
  refine lv_iload_n hx hb d_tb_linkLast_33 rfl (lv_at hl 2 rfl) ?_
  refine wa_st (k := 0) (x := (nI i)) hx hb hK hP hD hS 3 0 rfl rfl (Nat.lt_of_le_of_lt (Nat.zero_le i) hi) hn d_tb_linkLast_34 (fun H locs hP hD hS => ?_)
  have hP : va_P D cls (tx cI a mv ct qk qv qb qf qh qc n K V (upd (upd P i (nI b)) 0 (nI i)) (upd (upd N b (nI i)) i 0) G C fl lm) H := hP
  have hD : va_D A (tx cI a mv ct qk qv qb qf qh qc n K V (upd (upd P i (nI b)) 0 (nI i)) (upd (upd N b (nI i)) i 0) G C fl lm) := hD
  exact cg_vret (u := ()) hQ hx hb hr hlk hK hP hD hS rfl d_tb_linkLast_35
set_option maxRecDepth 100000 in
set_option maxHeartbeats 4000000 in
/-- headOf(k) -/
theorem c_tb_headOf (l : Launch) (D : va_G) (cI cT cP : ClassId) (a : Nat) (mv ct : Int32) (qk qv qb qf qh qc n : Nat) (K V P N G C : Nat → Int32) (fl lm : Int32) (hn : n < 2 ^ 31) (t : Nat) (et : n = 2 ^ t) (ht : t ≤ 30) (k : Int32) : Cg l y_tb_headOf b_tb_headOf 3 (some .int) 0 0 0 D (ty3 cI cT cP) [.ref a, .int k] (tx cI a mv ct qk qv qb qf qh qc n K V P N G C fl lm) (fun (v : Option Value) (u : Unit) => v = some (.int (nI (hof n k)))) (fun u => tx cI a mv ct qk qv qb qf qh qc n K V P N G C fl lm) := by
  refine cg_enter rfl (Nat.le_of_ble_eq_true rfl) ?_
  intro p e s m below meth c args hx hb hr hlk hml hown hin hts A hA hK hP hD hS ls hl Q hQ
  have hl : lv_has ls 3 [(0, .ref a), (1, .int k)] := hl
  have hP : va_P D cls (tx cI a mv ct qk qv qb qf qh qc n K V P N G C fl lm) s.heap := hP
  have hD : va_D A (tx cI a mv ct qk qv qb qf qh qc n K V P N G C fl lm) := hD
  refine lv_iload_n hx hb d_tb_headOf_0 rfl (lv_at hl 1 rfl) ?_
  refine lv_iload_n hx hb d_tb_headOf_1 rfl (lv_at hl 1 rfl) ?_
  refine lv_bipush (v := 16) hx hb d_tb_headOf_2 (by decide) ?_
  refine lv_iushr (v := ((k).toUInt32 >>> ((16 : Int32).toUInt32 &&& Int32.toUInt32 31)).toInt32) hx hb d_tb_headOf_4 rfl ?_
  refine lv_ixor hx hb d_tb_headOf_5 ?_
  refine lv_ldc hx hb hown (hts _ kk_tb_90) d_tb_headOf_6 ?_
  refine lv_imul hx hb d_tb_headOf_8 ?_
  refine tp_i (y := mx k) rfl ?_
  refine lv_istore_n (lv' := [(2, .int (mx k)), (0, .ref a), (1, .int k)]) hx hb d_tb_headOf_9 rfl hl (by decide) rfl (fun ls hl => ?_)
  refine lv_iload_n hx hb d_tb_headOf_10 rfl (lv_at hl 0 rfl) ?_
  refine lv_iload_n hx hb d_tb_headOf_11 rfl (lv_at hl 0 rfl) ?_
  refine lv_bipush (v := 16) hx hb d_tb_headOf_12 (by decide) ?_
  refine lv_iushr (v := (((mx k)).toUInt32 >>> ((16 : Int32).toUInt32 &&& Int32.toUInt32 31)).toInt32) hx hb d_tb_headOf_14 rfl ?_
  refine lv_ixor hx hb d_tb_headOf_15 ?_
  refine tp_i (y := mxx k) rfl ?_
  refine lv_aload_n hx hb d_tb_headOf_16 rfl (lv_at hl 1 rfl) ?_
  refine va_get (D := D) (ci := 0) (v := .ref qh) (C := R_tb) (T := F_tb) (N := 10) hx hb hts i_tb hown hK hP 0 rfl rfl 6 (by decide) (hts _ kf_tb_28) (fun _ h9 => h9) rfl d_tb_headOf_17 ?_
  refine va_alen (v := nI n) hx hb hK hP 5 0 rfl rfl rfl d_tb_headOf_20 ?_
  refine lv_iconst (v := 1) hx hb d_tb_headOf_21 (by decide) ?_
  refine lv_isub hx hb d_tb_headOf_22 ?_
  refine lv_iand hx hb d_tb_headOf_23 ?_
  refine tp_i (y := nI (hof n k)) (hof_and et ht k) ?_
  exact cg_iret (u := ()) hQ hx hb hr hlk hK hP hD hS rfl d_tb_headOf_24
set_option maxRecDepth 100000 in
set_option maxHeartbeats 4000000 in
/-- hook(i): i comes first in the chain of its key -/
theorem c_tb_hook (l : Launch) (D : va_G) (cI cT cP : ClassId) (a : Nat) (mv ct : Int32) (qk qv qb qf qh qc n : Nat) (K V P N G C : Nat → Int32) (fl lm : Int32) (hn : n < 2 ^ 31) (t : Nat) (et : n = 2 ^ t) (ht : t ≤ 30) (i : Nat) (hi : i < n) : Cg l y_tb_hook b_tb_hook 3 (none) 1 0 0 D (ty3 cI cT cP) [.ref a, .int (nI i)] (tx cI a mv ct qk qv qb qf qh qc n K V P N G C fl lm) (fun (v : Option Value) (u : Unit) => v = none) (fun u => tx cI a mv ct qk qv qb qf qh qc n K V P N (upd G (hof n (K i)) (nI i)) (upd C i (G (hof n (K i)))) fl lm) := by
  refine cg_enter rfl (Nat.le_of_ble_eq_true rfl) ?_
  intro p e s m below meth c args hx hb hr hlk hml hown hin hts A hA hK hP hD hS ls hl Q hQ
  have hl : lv_has ls 3 [(0, .ref a), (1, .int (nI i))] := hl
  have hP : va_P D cls (tx cI a mv ct qk qv qb qf qh qc n K V P N G C fl lm) s.heap := hP
  have hD : va_D A (tx cI a mv ct qk qv qb qf qh qc n K V P N G C fl lm) := hD
  have hz : hof n (K i) < n := hof_lt (by omega) _
  refine lv_aload_n hx hb d_tb_hook_0 rfl (lv_at hl 0 rfl) ?_
  refine lv_aload_n hx hb d_tb_hook_1 rfl (lv_at hl 0 rfl) ?_
  refine va_get (D := D) (ci := 0) (v := .ref qk) (C := R_tb) (T := F_tb) (N := 10) hx hb hts i_tb hown hK hP 0 rfl rfl 2 (by decide) (hts _ kf_tb_15) (fun _ h9 => h9) rfl d_tb_hook_2 ?_
  refine lv_iload_n hx hb d_tb_hook_5 rfl (lv_at hl 1 rfl) ?_
  refine wa_ld (k := i) hx hb hK hP 1 0 rfl rfl hi hn d_tb_hook_6 ?_
  refine cg_V (hn := 1) (As := [.int (K i)]) (rest := []) (wr := []) (q0 := 0) (ci := 0) hx hb hml hown hts (c_tb_headOf l D cI cT cP a mv ct qk qv qb qf qh qc n K V P N G C fl lm hn t et ht (K i)) km_tb_87 ki_tb_headOf ks_tb_headOf kn_tb kc_tb_headOf (by decide +kernel) rfl ⟨Nat.le_of_ble_eq_true rfl, Nat.le_of_ble_eq_true rfl⟩ hK hP hD hS hA [0, 1, 2, 3, 4, 5, 6] [] rfl (by decide) rfl (by decide) (by decide) rfl rfl hl.1 rfl (Nat.le_of_ble_eq_true rfl) d_tb_hook_7 ⟨Nat.le_refl _, Nat.le_refl _⟩ (fun v u H locs hpost hP hD hS => ?_)
  subst hpost
  refine W.eq (g2 := F0 m 10 ls [.int (nI (hof n (K i)))]) rfl ?_
  have hP : va_P D cls (tx cI a mv ct qk qv qb qf qh qc n K V P N G C fl lm) H := hP
  have hD : va_D A (tx cI a mv ct qk qv qb qf qh qc n K V P N G C fl lm) := hD
  refine lv_istore_n (lv' := [(2, .int (nI (hof n (K i)))), (0, .ref a), (1, .int (nI i))]) hx hb d_tb_hook_10 rfl hl (by decide) rfl (fun ls hl => ?_)
  refine lv_aload_n hx hb d_tb_hook_11 rfl (lv_at hl 1 rfl) ?_
  refine va_get (D := D) (ci := 0) (v := .ref qc) (C := R_tb) (T := F_tb) (N := 10) hx hb hts i_tb hown hK hP 0 rfl rfl 7 (by decide) (hts _ kf_tb_31) (fun _ h9 => h9) rfl d_tb_hook_12 ?_
  refine lv_iload_n hx hb d_tb_hook_15 rfl (lv_at hl 2 rfl) ?_
  refine lv_aload_n hx hb d_tb_hook_16 rfl (lv_at hl 1 rfl) ?_
  refine va_get (D := D) (ci := 0) (v := .ref qh) (C := R_tb) (T := F_tb) (N := 10) hx hb hts i_tb hown hK hP 0 rfl rfl 6 (by decide) (hts _ kf_tb_28) (fun _ h9 => h9) rfl d_tb_hook_17 ?_
  refine lv_iload_n hx hb d_tb_hook_20 rfl (lv_at hl 0 rfl) ?_
  refine wa_ld (k := hof n (K i)) hx hb hK hP 5 0 rfl rfl hz hn d_tb_hook_21 ?_
  refine wa_st (k := i) (x := (G (hof n (K i)))) hx hb hK hP hD hS 6 0 rfl rfl hi hn d_tb_hook_22 (fun H locs hP hD hS => ?_)
  have hP : va_P D cls (tx cI a mv ct qk qv qb qf qh qc n K V P N G (upd C i (G (hof n (K i)))) fl lm) H := hP
  have hD : va_D A (tx cI a mv ct qk qv qb qf qh qc n K V P N G (upd C i (G (hof n (K i)))) fl lm) := hD
  refine lv_aload_n hx hb d_tb_hook_23 rfl (lv_at hl 1 rfl) ?_
  refine va_get (D := D) (ci := 0) (v := .ref qh) (C := R_tb) (T := F_tb) (N := 10) hx hb hts i_tb hown hK hP 0 rfl rfl 6 (by decide) (hts _ kf_tb_28) (fun _ h9 => h9) rfl d_tb_hook_24 ?_
  refine lv_iload_n hx hb d_tb_hook_27 rfl (lv_at hl 0 rfl) ?_
  refine lv_iload_n hx hb d_tb_hook_28 rfl (lv_at hl 2 rfl) ?_
  refine wa_st (k := hof n (K i)) (x := (nI i)) hx hb hK hP hD hS 5 0 rfl rfl hz hn d_tb_hook_29 (fun H locs hP hD hS => ?_)
  have hP : va_P D cls (tx cI a mv ct qk qv qb qf qh qc n K V P N (upd G (hof n (K i)) (nI i)) (upd C i (G (hof n (K i)))) fl lm) H := hP
  have hD : va_D A (tx cI a mv ct qk qv qb qf qh qc n K V P N (upd G (hof n (K i)) (nI i)) (upd C i (G (hof n (K i)))) fl lm) := hD
  exact cg_vret (u := ()) hQ hx hb hr hlk hK hP hD hS rfl d_tb_hook_30
set_option maxRecDepth 100000 in
set_option maxHeartbeats 4000000 in
/-- freeSlot(), a slot was left -/
theorem c_tb_freeSlot (l : Launch) (D : va_G) (cI cT cP : ClassId) (a : Nat) (mv ct : Int32) (qk qv qb qf qh qc n : Nat) (K V P N G C : Nat → Int32) (lm : Int32) (hn : n < 2 ^ 31) (i : Nat) (hi : i < n) (h0 : 0 < i) : Cg l y_tb_freeSlot b_tb_freeSlot 2 (some .int) 0 0 0 D (ty3 cI cT cP) [.ref a] (tx cI a mv ct qk qv qb qf qh qc n K V P N G C (nI i) lm) (fun (v : Option Value) (u : Unit) => v = some (.int (nI i))) (fun u => tx cI a mv ct qk qv qb qf qh qc n K V P N G C (C i) lm) := by
  refine cg_enter rfl (Nat.le_of_ble_eq_true rfl) ?_
  intro p e s m below meth c args hx hb hr hlk hml hown hin hts A hA hK hP hD hS ls hl Q hQ
  have hl : lv_has ls 2 [(0, .ref a)] := hl
  have hP : va_P D cls (tx cI a mv ct qk qv qb qf qh qc n K V P N G C (nI i) lm) s.heap := hP
  have hD : va_D A (tx cI a mv ct qk qv qb qf qh qc n K V P N G C (nI i) lm) := hD
  refine lv_aload_n hx hb d_tb_freeSlot_0 rfl (lv_at hl 0 rfl) ?_
  refine va_get (D := D) (ci := 0) (v := .int (nI i)) (C := R_tb) (T := F_tb) (N := 10) hx hb hts i_tb hown hK hP 0 rfl rfl 8 (by decide) (hts _ kf_tb_75) (fun _ h9 => h9) rfl d_tb_freeSlot_1 ?_
  refine lv_if_eq (tgt := 24) hx hb d_tb_freeSlot_4 (by decide) (fun z9 => absurd z9 (nI_ne0 h0 (by omega))) (fun _ => ?_)
  refine lv_aload_n hx hb d_tb_freeSlot_7 rfl (lv_at hl 0 rfl) ?_
  refine va_get (D := D) (ci := 0) (v := .int (nI i)) (C := R_tb) (T := F_tb) (N := 10) hx hb hts i_tb hown hK hP 0 rfl rfl 8 (by decide) (hts _ kf_tb_75) (fun _ h9 => h9) rfl d_tb_freeSlot_8 ?_
  refine lv_istore_n (lv' := [(1, .int (nI i)), (0, .ref a)]) hx hb d_tb_freeSlot_11 rfl hl (by decide) rfl (fun ls hl => ?_)
  refine lv_aload_n hx hb d_tb_freeSlot_12 rfl (lv_at hl 1 rfl) ?_
  refine lv_aload_n hx hb d_tb_freeSlot_13 rfl (lv_at hl 1 rfl) ?_
  refine va_get (D := D) (ci := 0) (v := .ref qc) (C := R_tb) (T := F_tb) (N := 10) hx hb hts i_tb hown hK hP 0 rfl rfl 7 (by decide) (hts _ kf_tb_31) (fun _ h9 => h9) rfl d_tb_freeSlot_14 ?_
  refine lv_iload_n hx hb d_tb_freeSlot_17 rfl (lv_at hl 0 rfl) ?_
  refine wa_ld (k := i) hx hb hK hP 6 0 rfl rfl hi hn d_tb_freeSlot_18 ?_
  refine va_put (D := D) (ci := 0) (v := .int (C i)) (ty := .int) (C := R_tb) (T := F_tb) (N := 10) hx hb hts i_tb t_tb t_tb_ok n_tb hown hK hP hD hS 0 rfl rfl 8 (by decide) (hts _ kf_tb_75) (fun _ h9 => h9) rfl (by decide +kernel) rfl rfl (Nat.le_of_ble_eq_true rfl) d_tb_freeSlot_19 (fun H locs hP hD hS => ?_)
  have hP : va_P D cls (tx cI a mv ct qk qv qb qf qh qc n K V P N G C (C i) lm) H := hP
  have hD : va_D A (tx cI a mv ct qk qv qb qf qh qc n K V P N G C (C i) lm) := hD
  refine lv_iload_n hx hb d_tb_freeSlot_22 rfl (lv_at hl 0 rfl) ?_
  exact cg_iret (u := ()) hQ hx hb hr hlk hK hP hD hS rfl d_tb_freeSlot_23
set_option maxRecDepth 100000 in
set_option maxHeartbeats 4000000 in
/-- freeSlot(), none was left: a new one is made -/
theorem c_tb_freeSlot_n (l : Launch) (D : va_G) (cI cT cP : ClassId) (a : Nat) (mv ct : Int32) (qk qv qb qf qh qc n : Nat) (K V P N G C : Nat → Int32)  (hn : n < 2 ^ 31) (i : Nat) : Cg l y_tb_freeSlot b_tb_freeSlot 2 (some .int) 0 0 0 D (ty3 cI cT cP) [.ref a] (tx cI a mv ct qk qv qb qf qh qc n K V P N G C 0 (nI i)) (fun (v : Option Value) (u : Unit) => v = some (.int (nI (i + 1)))) (fun u => tx cI a mv ct qk qv qb qf qh qc n K V P N G C 0 (nI (i + 1))) := by
  refine cg_enter rfl (Nat.le_of_ble_eq_true rfl) ?_
  intro p e s m below meth c args hx hb hr hlk hml hown hin hts A hA hK hP hD hS ls hl Q hQ
  have hl : lv_has ls 2 [(0, .ref a)] := hl
  have hP : va_P D cls (tx cI a mv ct qk qv qb qf qh qc n K V P N G C 0 (nI i)) s.heap := hP
  have hD : va_D A (tx cI a mv ct qk qv qb qf qh qc n K V P N G C 0 (nI i)) := hD
  refine lv_aload_n hx hb d_tb_freeSlot_0 rfl (lv_at hl 0 rfl) ?_
  refine va_get (D := D) (ci := 0) (v := .int 0) (C := R_tb) (T := F_tb) (N := 10) hx hb hts i_tb hown hK hP 0 rfl rfl 8 (by decide) (hts _ kf_tb_75) (fun _ h9 => h9) rfl d_tb_freeSlot_1 ?_
  refine lv_if_eq (tgt := 24) hx hb d_tb_freeSlot_4 (by decide) (fun _ => ?_) (fun z9 => absurd rfl z9)
  refine lv_aload_n hx hb d_tb_freeSlot_24 rfl (lv_at hl 0 rfl) ?_
  refine lv_dup hx hb d_tb_freeSlot_25 rfl ?_
  refine va_get (D := D) (ci := 0) (v := .int (nI i)) (C := R_tb) (T := F_tb) (N := 10) hx hb hts i_tb hown hK hP 0 rfl rfl 9 (by decide) (hts _ kf_tb_78) (fun _ h9 => h9) rfl d_tb_freeSlot_26 ?_
  refine lv_iconst (v := 1) hx hb d_tb_freeSlot_29 (by decide) ?_
  refine lv_iadd hx hb d_tb_freeSlot_30 ?_
  refine tp_i (y := nI (i + 1)) (nI_1 i) ?_
  refine va_put (D := D) (ci := 0) (v := .int (nI (i + 1))) (ty := .int) (C := R_tb) (T := F_tb) (N := 10) hx hb hts i_tb t_tb t_tb_ok n_tb hown hK hP hD hS 0 rfl rfl 9 (by decide) (hts _ kf_tb_78) (fun _ h9 => h9) rfl (by decide +kernel) rfl rfl (Nat.le_of_ble_eq_true rfl) d_tb_freeSlot_31 (fun H locs hP hD hS => ?_)
  have hP : va_P D cls (tx cI a mv ct qk qv qb qf qh qc n K V P N G C 0 (nI (i + 1))) H := hP
  have hD : va_D A (tx cI a mv ct qk qv qb qf qh qc n K V P N G C 0 (nI (i + 1))) := hD
  refine lv_aload_n hx hb d_tb_freeSlot_34 rfl (lv_at hl 0 rfl) ?_
  refine va_get (D := D) (ci := 0) (v := .int (nI (i + 1))) (C := R_tb) (T := F_tb) (N := 10) hx hb hts i_tb hown hK hP 0 rfl rfl 9 (by decide) (hts _ kf_tb_78) (fun _ h9 => h9) rfl d_tb_freeSlot_35 ?_
  exact cg_iret (u := ()) hQ hx hb hr hlk hK hP hD hS rfl d_tb_freeSlot_38
