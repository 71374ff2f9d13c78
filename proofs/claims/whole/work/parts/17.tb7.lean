-- Table, outer methods (3): printed by wip/whole/gen/tb7.py
/-- sweep -/
def sw (d r : Int32) (L : List (Int32 × Int32)) : List (Int32 × Int32) := L.filter (fun e => decide (¬ fm e.1 d = r))
theorem sw_kv {d r : Int32} {K V : Nat → Int32} {R : List Nat} : sw d r (kv K V R) = kv K V (R.filter (fun y => decide (¬ fm (K y) d = r))) := List.filter_map ..
/-- pour: entries stored one behind another; rows grow -/
def pj (mv : Bool) : Nat × List (Int32 × Int32) → List (Int32 × Int32) → Nat × List (Int32 × Int32)
  | jl, [] => jl
  | jl, e :: M => pj mv (njs jl.1 e.1 jl.2, st mv e.1 e.2 jl.2) M
theorem nj_le (j len : Nat) : j ≤ nj j len := by
  unfold nj
  split <;> omega
theorem njs_le (j : Nat) (k : Int32) (L : List (Int32 × Int32)) : j ≤ njs j k L := by
  unfold njs
  split
  · exact nj_le _ _
  · exact Nat.le_refl _
theorem pj_le {mv : Bool} {M : List (Int32 × Int32)} : ∀ jl : Nat × List (Int32 × Int32), jl.1 ≤ (pj mv jl M).1 := by
  induction M with
  | nil => exact fun jl => Nat.le_refl _
  | cons e M ih => exact fun jl => Nat.le_trans (njs_le jl.1 e.1 jl.2) (ih (njs jl.1 e.1 jl.2, st mv e.1 e.2 jl.2))
theorem mcT_add {a b c : Nat} (h1 : a ≤ b) (h2 : b ≤ c) : mcT a b + mcT b c = mcT a c := by
  unfold mcT
  omega
theorem msT_add {a b c : Nat} (h1 : a ≤ b) (h2 : b ≤ c) : msT a b + msT b c = msT a c := by
  unfold msT
  have e1 : 2 ^ (5 + a) ≤ 2 ^ (5 + b) := Nat.pow_le_pow_right (by decide) (by omega)
  have e2 : 2 ^ (5 + b) ≤ 2 ^ (5 + c) := Nat.pow_le_pow_right (by decide) (by omega)
  omega
theorem mcT_le {a b c : Nat} (h : b ≤ c) : mcT a b ≤ mcT a c := by
  unfold mcT
  omega
theorem msT_le {a b c : Nat} (h : b ≤ c) : msT a b ≤ msT a c := by
  unfold msT
  have e2 : 2 ^ (5 + b) ≤ 2 ^ (5 + c) := Nat.pow_le_pow_right (by decide) (by omega)
  omega
theorem del_len {k : Int32} {L : List (Int32 × Int32)} : (del k L).length ≤ L.length := List.length_filter_le ..
theorem del_lt {k v : Int32} {L : List (Int32 × Int32)} (h : lk k L = some v) : (del k L).length < L.length := by
  have h1 := lk_mem h
  refine List.length_filter_lt_length_iff_exists.mpr ⟨(k, v), h1, by simp⟩
theorem setv_len {k v : Int32} {L : List (Int32 × Int32)} : (setv k v L).length = L.length := List.length_map ..
theorem us_len {mv : Bool} {k : Int32} {L : List (Int32 × Int32)} : (us mv k L).length ≤ L.length := by
  unfold us
  cases mv with
  | false => exact Nat.le_refl _
  | true =>
    cases h : lk k L with
    | none => exact Nat.le_refl _
    | some v =>
      have := del_lt h
      simp only [if_true, List.length_append, List.length_cons, List.length_nil]
      omega
theorem st_len {mv : Bool} {k v : Int32} {L : List (Int32 × Int32)} : (st mv k v L).length ≤ L.length + 1 := by
  unfold st
  cases h : lk k L with
  | none => simp
  | some w =>
    have := us_len (mv := mv) (k := k) (L := setv k v L)
    rw [setv_len] at this
    exact Nat.le_succ_of_le this
set_option maxRecDepth 100000 in
set_option maxHeartbeats 4000000 in
/-- dropByRest(d0, r0) -/
theorem c_tb_dropByRest (l : Launch) (D : va_G) (cI cT cP : ClassId) (a : Nat) (mv : Bool) (j : Nat) (L : List (Int32 × Int32)) (u0 : TB) (hL : TL j L u0) (d0 r0 : Int32) (hd0 : ¬ d0 = 0) : Cg l y_tb_dropByRest b_tb_dropByRest 7 (some .int) 3 0 0 D (ty3 cI cT cP) [.ref a, .int d0, .int r0] (tw cI a mv j u0) (fun (v : Option Value) (u : TB) => v = some (.int (nI (L.length - (sw d0 r0 L).length))) ∧ TL j (sw d0 r0 L) u) (fun u => tw cI a mv j u) := by
  obtain ⟨qk, qv, qb, qf, qh, qc, K, V, P, N, G, C, fl, mm, R⟩ := u0
  obtain ⟨Fr, bl, hTA, hTN, hTH, hKn, eL⟩ := hL
  have hTA : TA (2 ^ (4 + j)) j mm R Fr := hTA
  have hTN : TN P N R := hTN
  have hTH : TH (2 ^ (4 + j)) K G C fl R Fr bl := hTH
  have hKn : (R.map K).Nodup := hKn
  have eL : L = kv K V R := eL
  have hLl : L.length = R.length := by rw [eL]; exact List.length_map ..
  have hn : 2 ^ (4 + j) < 2 ^ 31 := (ta_len hTA).2.2
  have hRl : R.length < 2 ^ 31 := (ta_len hTA).2.1
  refine cg_enter rfl (Nat.le_of_ble_eq_true rfl) ?_
  intro p e s m below meth c args hx hb hr hlk hml hown hin hts A hA hK hP hD hS ls hl Q hQ
  have hl : lv_has ls 7 [(0, .ref a), (1, .int d0), (2, .int r0)] := hl
  have hP : va_P D cls (tx cI a (mvI mv) (nI R.length) qk qv qb qf qh qc (2 ^ (4 + j)) K V P N G C fl (nI mm)) s.heap := hP
  have hD : va_D A (tx cI a (mvI mv) (nI R.length) qk qv qb qf qh qc (2 ^ (4 + j)) K V P N G C fl (nI mm)) := hD
  refine lv_aload_n hx hb d_tb_dropByRest_0 rfl (lv_at hl 0 rfl) ?_
  refine va_get (D := D) (ci := 0) (v := .int (nI R.length)) (C := R_tb) (T := F_tb) (N := 10) hx hb hts i_tb hown hK hP 0 rfl rfl 1 (by decide) (hts _ kf_tb_52) (fun _ h9 => h9) rfl d_tb_dropByRest_1 ?_
  refine lv_istore_n (lv' := [(3, .int (nI R.length)), (0, .ref a), (1, .int d0), (2, .int r0)]) hx hb d_tb_dropByRest_4 rfl hl (by decide) rfl (fun ls hl => ?_)
  refine lv_aload_n hx hb d_tb_dropByRest_5 rfl (lv_at hl 1 rfl) ?_
  refine va_get (D := D) (ci := 0) (v := .ref qf) (C := R_tb) (T := F_tb) (N := 10) hx hb hts i_tb hown hK hP 0 rfl rfl 5 (by decide) (hts _ kf_tb_25) (fun _ h9 => h9) rfl d_tb_dropByRest_6 ?_
  refine lv_iconst (v := 0) hx hb d_tb_dropByRest_9 (by decide) ?_
  refine wa_ld (k := 0) hx hb hK hP 4 0 rfl rfl (by have := ta_n hTA; omega) hn d_tb_dropByRest_10 ?_
  refine tp_i (y := nI (hd_ 0 R)) (sg_hd0 hTN.1) ?_
  refine lv_istore (lv' := [(4, .int (nI (hd_ 0 R))), (3, .int (nI R.length)), (0, .ref a), (1, .int d0), (2, .int r0)]) hx hb d_tb_dropByRest_11 hl (by decide) rfl (fun ls hl => ?_)
  refine lv_iconst (v := 0) hx hb d_tb_dropByRest_13 (by decide) ?_
  refine lv_istore (lv' := [(5, .int 0), (4, .int (nI (hd_ 0 R))), (3, .int (nI R.length)), (0, .ref a), (1, .int d0), (2, .int r0)]) hx hb d_tb_dropByRest_14 hl (by decide) rfl (fun ls hl => ?_)
  have loop : ∀ (l2 l1 l3 : List Nat) (P N G C : Nat → Int32) (fl : Int32) (Fr : List Nat) (bl : Nat → List Nat), R = l1 ++ l2 → l3 = l1.filter (fun y => decide (¬ fm (K y) d0 = r0)) → TA (2 ^ (4 + j)) j mm (l3 ++ l2) Fr → TN P N (l3 ++ l2) → TH (2 ^ (4 + j)) K G C fl (l3 ++ l2) Fr bl → ((l3 ++ l2).map K).Nodup → ∀ (H : Heap) (locs : List Loc), va_P D cls (tx cI a (mvI mv) (nI (l3 ++ l2).length) qk qv qb qf qh qc (2 ^ (4 + j)) K V P N G C fl (nI mm)) H → va_D A (tx cI a (mvI mv) (nI (l3 ++ l2).length) qk qv qb qf qh qc (2 ^ (4 + j)) K V P N G C fl (nI mm)) → va_S A s.heap H locs → ∀ ls : Array Slot, lv_has ls 7 [(0, .ref a), (1, .int d0), (2, .int r0), (3, .int (nI R.length)), (4, .int (nI (hd_ 0 l2))), (5, .int (nI l1.length))] → W p l e (rmL 3 0 0) s m args below meth c H locs 0 0 Q (F0 m 16 ls []) := by
    clear hP hD hS hTA hTN hTH
    intro l2
    induction l2 with
    | nil =>
      intro l1 l3 P N G C fl Fr bl eR e3 hTA hTN hTH hKn H locs hP hD hS ls hl
      have hl1 : l1 = R := by rw [eR, List.append_nil]
      have esw : sw d0 r0 L = kv K V (l3 ++ []) := by rw [eL, sw_kv, List.append_nil, e3, hl1]
      have hle : (l3 ++ []).length ≤ R.length := by rw [List.append_nil, e3, hl1]; exact List.length_filter_le ..
      refine lv_iload hx hb d_tb_dropByRest_16 (lv_at hl 5 rfl) ?_
      refine lv_iload_n hx hb d_tb_dropByRest_18 rfl (lv_at hl 3 rfl) ?_
      refine lv_icmp_ge (tgt := 62) hx hb d_tb_dropByRest_19 (by decide) (fun _ => ?_) (fun z9 => absurd (by rw [hl1]; exact nI_le (Nat.le_refl _) hRl) z9)
      refine lv_iload_n hx hb d_tb_dropByRest_62 rfl (lv_at hl 3 rfl) ?_
      refine lv_aload_n hx hb d_tb_dropByRest_63 rfl (lv_at hl 0 rfl) ?_
      refine va_get (D := D) (ci := 0) (v := .int (nI (l3 ++ []).length)) (C := R_tb) (T := F_tb) (N := 10) hx hb hts i_tb hown hK hP 0 rfl rfl 1 (by decide) (hts _ kf_tb_52) (fun _ h9 => h9) rfl d_tb_dropByRest_64 ?_
      refine lv_isub hx hb d_tb_dropByRest_67 ?_
      refine tp_i (y := nI (R.length - (l3 ++ []).length)) (pk_sub hle) ?_
      exact cg_iret (u := (qk, qv, qb, qf, qh, qc, K, V, P, N, G, C, fl, mm, l3 ++ [])) hQ hx hb hr hlk hK hP hD hS (⟨by rw [hLl, esw]; simp [kv], Fr, bl, hTA, hTN, hTH, hKn, esw⟩) d_tb_dropByRest_68
    | cons x l2 ih =>
      intro l1 l3 P N G C fl Fr bl eR e3 hTA hTN hTH hKn H locs hP hD hS ls hl
      have hxR : x ∈ l3 ++ x :: l2 := List.mem_append_right _ (List.mem_cons_self ..)
      have hxn := ta_in hTA hxR
      have hlt : l1.length < R.length := by rw [eR, List.length_append, List.length_cons]; omega
      obtain ⟨q1, sN, q3⟩ := tn_cut (ta_nd0 hTA) hTN
      have hl : lv_has ls 7 [(0, .ref a), (1, .int d0), (2, .int r0), (3, .int (nI R.length)), (4, .int (nI x)), (5, .int (nI l1.length))] := hl
      refine lv_iload hx hb d_tb_dropByRest_16 (lv_at hl 5 rfl) ?_
      refine lv_iload_n hx hb d_tb_dropByRest_18 rfl (lv_at hl 3 rfl) ?_
      refine lv_icmp_ge (tgt := 62) hx hb d_tb_dropByRest_19 (by decide) (fun z9 => absurd z9 (nI_ge hlt hRl)) (fun _ => ?_)
      refine lv_aload_n hx hb d_tb_dropByRest_22 rfl (lv_at hl 0 rfl) ?_
      refine va_get (D := D) (ci := 0) (v := .ref qf) (C := R_tb) (T := F_tb) (N := 10) hx hb hts i_tb hown hK hP 0 rfl rfl 5 (by decide) (hts _ kf_tb_25) (fun _ h9 => h9) rfl d_tb_dropByRest_23 ?_
      refine lv_iload hx hb d_tb_dropByRest_26 (lv_at hl 4 rfl) ?_
      refine wa_ld (k := x) hx hb hK hP 4 0 rfl rfl hxn.2.2 hn d_tb_dropByRest_28 ?_
      refine tp_i (y := nI (hd_ 0 l2)) sN ?_
      refine lv_istore (lv' := [(6, .int (nI (hd_ 0 l2))), (0, .ref a), (1, .int d0), (2, .int r0), (3, .int (nI R.length)), (4, .int (nI x)), (5, .int (nI l1.length))]) hx hb d_tb_dropByRest_29 hl (by decide) rfl (fun ls hl => ?_)
      refine lv_aload_n hx hb d_tb_dropByRest_31 rfl (lv_at hl 1 rfl) ?_
      refine va_get (D := D) (ci := 0) (v := .ref qk) (C := R_tb) (T := F_tb) (N := 10) hx hb hts i_tb hown hK hP 0 rfl rfl 2 (by decide) (hts _ kf_tb_15) (fun _ h9 => h9) rfl d_tb_dropByRest_32 ?_
      refine lv_iload hx hb d_tb_dropByRest_35 (lv_at hl 5 rfl) ?_
      refine wa_ld (k := x) hx hb hK hP 1 0 rfl rfl hxn.2.2 hn d_tb_dropByRest_37 ?_
      refine lv_iload_n hx hb d_tb_dropByRest_38 rfl (lv_at hl 2 rfl) ?_
      refine cg_S (hn := 2) (As := [.int (K x), .int d0]) (rest := []) (wr := tx cI a (mvI mv) (nI (l3 ++ x :: l2).length) qk qv qb qf qh qc (2 ^ (4 + j)) K V P N G C fl (nI mm)) hx hb hml hown hts (c_jm_floorMod l D cI cT cP (K x) d0 hd0) km_tb_63 kt_jm_floorMod kn_jm kc_jm_floorMod (by decide +kernel) rfl ⟨Nat.le_of_ble_eq_true rfl, Nat.le_of_ble_eq_true rfl⟩ hK hP hD hS hA [] [0, 1, 2, 3, 4, 5, 6] rfl (by decide) rfl (by decide) (by decide) hl.1 rfl (Nat.le_of_ble_eq_true rfl) d_tb_dropByRest_39 ⟨Nat.zero_le _, Nat.zero_le _⟩ (fun v u H locs hpost hP hD hS => ?_)
      subst hpost
      refine W.eq (g2 := F0 m 42 ls [.int (fm (K x) d0)]) rfl ?_
      have hP : va_P D cls (tx cI a (mvI mv) (nI (l3 ++ x :: l2).length) qk qv qb qf qh qc (2 ^ (4 + j)) K V P N G C fl (nI mm)) H := hP
      have hD : va_D A (tx cI a (mvI mv) (nI (l3 ++ x :: l2).length) qk qv qb qf qh qc (2 ^ (4 + j)) K V P N G C fl (nI mm)) := hD
      refine lv_iload_n hx hb d_tb_dropByRest_42 rfl (lv_at hl 3 rfl) ?_
      refine lv_icmp_ne (tgt := 52) hx hb d_tb_dropByRest_43 (by decide) (fun c1 => ?_) (fun c1 => ?_)
      · have e8 : l3 ++ x :: l2 = (l3 ++ [x]) ++ l2 := by simp
        rw [e8] at hP hD hTA hTN hTH hKn
        refine lv_iload hx hb d_tb_dropByRest_52 (lv_at hl 0 rfl) ?_
        refine lv_istore (lv' := [(4, .int (nI (hd_ 0 l2))), (6, .int (nI (hd_ 0 l2))), (0, .ref a), (1, .int d0), (2, .int r0), (3, .int (nI R.length)), (5, .int (nI l1.length))]) hx hb d_tb_dropByRest_54 hl (by decide) rfl (fun ls hl => ?_)
        refine lv_iinc (v := nI (l1 ++ [x]).length) (lv' := [(5, .int (nI (l1 ++ [x]).length)), (4, .int (nI (hd_ 0 l2))), (6, .int (nI (hd_ 0 l2))), (0, .ref a), (1, .int d0), (2, .int r0), (3, .int (nI R.length))]) hx hb d_tb_dropByRest_56 hl (k := 6) rfl (inc_l l1 x) (by decide) rfl (fun ls hl => ?_)
        refine lv_goto (tgt := 16) hx hb d_tb_dropByRest_59 (by decide) ?_
        exact ih (l1 ++ [x]) (l3 ++ [x]) P N G C fl Fr bl (by rw [eR]; simp) (by rw [List.filter_append, ← e3, List.filter_cons_of_pos (by simpa using c1)]; rfl) hTA hTN hTH hKn _ _ hP hD hS ls (lv_sub hl [3, 4, 5, 6, 1, 0] rfl)
      · refine lv_aload_n hx hb d_tb_dropByRest_46 rfl (lv_at hl 1 rfl) ?_
        refine lv_iload hx hb d_tb_dropByRest_47 (lv_at hl 5 rfl) ?_
        refine cg_V (hn := 1) (As := [.int (nI x)]) (rest := []) (wr := []) (q0 := 0) (ci := 0) hx hb hml hown hts (c_tb_drop l D cI cT cP a (mvI mv) qk qv qb qf qh qc (2 ^ (4 + j)) K V P N G C fl (nI mm) j mm x l3 l2 Fr bl hTA hTN hTH hKn) km_tb_60 ki_tb_drop ks_tb_drop kn_tb kc_tb_drop (by decide +kernel) rfl ⟨Nat.le_of_ble_eq_true rfl, Nat.le_of_ble_eq_true rfl⟩ hK hP hD hS hA [0, 1, 2, 3, 4, 5, 6] [] rfl (by decide) rfl (by decide) (by decide) rfl rfl hl.1 rfl (Nat.le_of_ble_eq_true rfl) d_tb_dropByRest_49 ⟨Nat.zero_le _, Nat.zero_le _⟩ (fun v u H locs hpost hP hD hS => ?_)
        obtain ⟨G2, C2⟩ := u
        obtain ⟨e9, bl2, hTH2⟩ := hpost
        subst e9
        have hTH2 : TH (2 ^ (4 + j)) K G2 C2 (nI x) (l3 ++ l2) (x :: Fr) bl2 := hTH2
        refine W.eq (g2 := F0 m 52 ls []) rfl ?_
        have hP : va_P D cls (tx cI a (mvI mv) (nI (l3 ++ l2).length) qk qv qb qf qh qc (2 ^ (4 + j)) K V (upd P (hd_ 0 l2) (nI (ls_ 0 l3))) (upd N (ls_ 0 l3) (nI (hd_ 0 l2))) G2 C2 (nI x) (nI mm)) H := hP
        have hD : va_D A (tx cI a (mvI mv) (nI (l3 ++ l2).length) qk qv qb qf qh qc (2 ^ (4 + j)) K V (upd P (hd_ 0 l2) (nI (ls_ 0 l3))) (upd N (ls_ 0 l3) (nI (hd_ 0 l2))) G2 C2 (nI x) (nI mm)) := hD
        refine lv_iload hx hb d_tb_dropByRest_52 (lv_at hl 0 rfl) ?_
        refine lv_istore (lv' := [(4, .int (nI (hd_ 0 l2))), (6, .int (nI (hd_ 0 l2))), (0, .ref a), (1, .int d0), (2, .int r0), (3, .int (nI R.length)), (5, .int (nI l1.length))]) hx hb d_tb_dropByRest_54 hl (by decide) rfl (fun ls hl => ?_)
        refine lv_iinc (v := nI (l1 ++ [x]).length) (lv' := [(5, .int (nI (l1 ++ [x]).length)), (4, .int (nI (hd_ 0 l2))), (6, .int (nI (hd_ 0 l2))), (0, .ref a), (1, .int d0), (2, .int r0), (3, .int (nI R.length))]) hx hb d_tb_dropByRest_56 hl (k := 6) rfl (inc_l l1 x) (by decide) rfl (fun ls hl => ?_)
        refine lv_goto (tgt := 16) hx hb d_tb_dropByRest_59 (by decide) ?_
        exact ih (l1 ++ [x]) l3 _ _ G2 C2 (nI x) (x :: Fr) bl2 (by rw [eR]; simp) (by rw [List.filter_append, ← e3, List.filter_cons_of_neg (by simpa using c1)]; simp) (ta_del hTA) q3 hTH2 (List.Nodup.sublist (List.Sublist.map K (List.Sublist.append_left (List.sublist_cons_self ..) _)) hKn) _ _ hP hD hS ls (lv_sub hl [3, 4, 5, 6, 1, 0] rfl)
  exact loop R [] [] P N G C fl Fr bl rfl rfl hTA hTN hTH hKn _ _ hP hD hS ls (lv_sub hl [3, 4, 5, 2, 1, 0] rfl)
set_option maxRecDepth 100000 in
set_option maxHeartbeats 4000000 in
/-- storeAllOf(source) -/
theorem c_tb_storeAllOf (l : Launch) (D : va_G) (cI cT cP : ClassId) (a : Nat) (mv : Bool) (j : Nat) (L : List (Int32 × Int32)) (u0 : TB) (hL : TL j L u0) (a2 : Nat) (mv2 : Bool) (j2 : Nat) (L2 : List (Int32 × Int32)) (u2 : TB) (hL2 : TL j2 L2 u2) (hlen : L.length + L2.length ≤ 1400) : Cg l y_tb_storeAllOf b_tb_storeAllOf 5 (none) 5 (mcT j (pj mv (j, L) L2).1) (msT j (pj mv (j, L) L2).1) D (ty3 cI cT cP) [.ref a, .ref a2] ((tw cI a mv j u0) ++ (tw cI a2 mv2 j2 u2)) (fun (v : Option Value) (u : TB) => v = none ∧ TL (pj mv (j, L) L2).1 (pj mv (j, L) L2).2 u) (fun u => (tw cI a2 mv2 j2 u2) ++ (tw cI a mv (pj mv (j, L) L2).1 u)) := by
  obtain ⟨qk2, qv2, qb2, qf2, qh2, qc2, K2, V2, P2, N2, G2, C2, fl2, mm2, R2⟩ := u2
  obtain ⟨Fr2, bl2, hTA2, hTN2, hTH2, hKn2, eL2⟩ := hL2
  have hTA2 : TA (2 ^ (4 + j2)) j2 mm2 R2 Fr2 := hTA2
  have hTN2 : TN P2 N2 R2 := hTN2
  have hTH2 : TH (2 ^ (4 + j2)) K2 G2 C2 fl2 R2 Fr2 bl2 := hTH2
  have hKn2 : (R2.map K2).Nodup := hKn2
  have eL2 : L2 = kv K2 V2 R2 := eL2
  have hLl2 : L2.length = R2.length := by rw [eL2]; exact List.length_map ..
  have hn2 : 2 ^ (4 + j2) < 2 ^ 31 := (ta_len hTA2).2.2
  have hRl2 : R2.length < 2 ^ 31 := (ta_len hTA2).2.1
  refine cg_enter rfl (Nat.le_of_ble_eq_true rfl) ?_
  intro p e s m below meth c args hx hb hr hlk hml hown hin hts A hA hK hP hD hS ls hl Q hQ
  have hl : lv_has ls 5 [(0, .ref a), (1, .ref a2)] := hl
  have hP : va_P D cls ((tw cI a mv j u0) ++ (tx cI a2 (mvI mv2) (nI R2.length) qk2 qv2 qb2 qf2 qh2 qc2 (2 ^ (4 + j2)) K2 V2 P2 N2 G2 C2 fl2 (nI mm2))) s.heap := hP
  have hD : va_D A ((tw cI a mv j u0) ++ (tx cI a2 (mvI mv2) (nI R2.length) qk2 qv2 qb2 qf2 qh2 qc2 (2 ^ (4 + j2)) K2 V2 P2 N2 G2 C2 fl2 (nI mm2))) := hD
  have hP : va_P D cls ((tx cI a2 (mvI mv2) (nI R2.length) qk2 qv2 qb2 qf2 qh2 qc2 (2 ^ (4 + j2)) K2 V2 P2 N2 G2 C2 fl2 (nI mm2)) ++ (tw cI a mv j u0)) s.heap := hP.sub [7, 8, 9, 10, 11, 12, 13, 0, 1, 2, 3, 4, 5, 6] rfl
  have hD : va_D A ((tx cI a2 (mvI mv2) (nI R2.length) qk2 qv2 qb2 qf2 qh2 qc2 (2 ^ (4 + j2)) K2 V2 P2 N2 G2 C2 fl2 (nI mm2)) ++ (tw cI a mv j u0)) := hD.sub [7, 8, 9, 10, 11, 12, 13, 0, 1, 2, 3, 4, 5, 6] (by decide) rfl
  have hn := hn2
  refine lv_aload_n hx hb d_tb_storeAllOf_0 rfl (lv_at hl 1 rfl) ?_
  refine va_get (D := D) (ci := 0) (v := .int (nI R2.length)) (C := R_tb) (T := F_tb) (N := 10) hx hb hts i_tb hown hK hP 0 rfl rfl 1 (by decide) (hts _ kf_tb_52) (fun _ h9 => h9) rfl d_tb_storeAllOf_1 ?_
  refine lv_istore_n (lv' := [(2, .int (nI R2.length)), (0, .ref a), (1, .ref a2)]) hx hb d_tb_storeAllOf_4 rfl hl (by decide) rfl (fun ls hl => ?_)
  refine lv_aload_n hx hb d_tb_storeAllOf_5 rfl (lv_at hl 2 rfl) ?_
  refine va_get (D := D) (ci := 0) (v := .ref qf2) (C := R_tb) (T := F_tb) (N := 10) hx hb hts i_tb hown hK hP 0 rfl rfl 5 (by decide) (hts _ kf_tb_25) (fun _ h9 => h9) rfl d_tb_storeAllOf_6 ?_
  refine lv_iconst (v := 0) hx hb d_tb_storeAllOf_9 (by decide) ?_
  refine wa_ld (k := 0) hx hb hK hP 4 0 rfl rfl (by have := ta_n hTA2; omega) hn d_tb_storeAllOf_10 ?_
  refine tp_i (y := nI (hd_ 0 R2)) (sg_hd0 hTN2.1) ?_
  refine lv_istore_n (lv' := [(3, .int (nI (hd_ 0 R2))), (2, .int (nI R2.length)), (0, .ref a), (1, .ref a2)]) hx hb d_tb_storeAllOf_11 rfl hl (by decide) rfl (fun ls hl => ?_)
  refine lv_iconst (v := 0) hx hb d_tb_storeAllOf_12 (by decide) ?_
  refine lv_istore (lv' := [(4, .int 0), (3, .int (nI (hd_ 0 R2))), (2, .int (nI R2.length)), (0, .ref a), (1, .ref a2)]) hx hb d_tb_storeAllOf_13 hl (by decide) rfl (fun ls hl => ?_)
  have loop : ∀ (l2 l1 : List Nat) (jc : Nat) (Lc : List (Int32 × Int32)) (uc : TB), R2 = l1 ++ l2 → TL jc Lc uc → j ≤ jc → pj mv (jc, Lc) (kv K2 V2 l2) = pj mv (j, L) L2 → Lc.length + l2.length ≤ 1400 → ∀ (H : Heap) (locs : List Loc), va_P D cls ((tx cI a2 (mvI mv2) (nI R2.length) qk2 qv2 qb2 qf2 qh2 qc2 (2 ^ (4 + j2)) K2 V2 P2 N2 G2 C2 fl2 (nI mm2)) ++ (tw cI a mv jc uc)) H → va_D A ((tx cI a2 (mvI mv2) (nI R2.length) qk2 qv2 qb2 qf2 qh2 qc2 (2 ^ (4 + j2)) K2 V2 P2 N2 G2 C2 fl2 (nI mm2)) ++ (tw cI a mv jc uc)) → va_S A s.heap H locs → ∀ ls : Array Slot, lv_has ls 5 [(0, .ref a), (1, .ref a2), (2, .int (nI R2.length)), (3, .int (nI (hd_ 0 l2))), (4, .int (nI l1.length))] → W p l e (rmL 5 (mcT j (pj mv (j, L) L2).1) (msT j (pj mv (j, L) L2).1)) s m args below meth c H locs (mcT j jc) (msT j jc) Q (F0 m 15 ls []) := by
    clear hP hD hS
    intro l2
    induction l2 with
    | nil =>
      intro l1 jc Lc uc eR hT hjc epj hlc H locs hP hD hS ls hl
      have hl1 : l1 = R2 := by rw [eR, List.append_nil]
      have e1 : jc = (pj mv (j, L) L2).1 := by rw [← epj]; rfl
      have e2 : Lc = (pj mv (j, L) L2).2 := by rw [← epj]; rfl
      subst e1
      subst e2
      refine lv_iload hx hb d_tb_storeAllOf_15 (lv_at hl 4 rfl) ?_
      refine lv_iload_n hx hb d_tb_storeAllOf_17 rfl (lv_at hl 2 rfl) ?_
      refine lv_icmp_ge (tgt := 51) hx hb d_tb_storeAllOf_18 (by decide) (fun _ => ?_) (fun z9 => absurd (by rw [hl1]; exact nI_le (Nat.le_refl _) hRl2) z9)
      exact cg_vret (u := uc) hQ hx hb hr hlk hK hP hD hS (⟨rfl, hT⟩) d_tb_storeAllOf_51
    | cons x l2 ih =>
      intro l1 jc Lc uc eR hT hjc epj hlc H locs hP hD hS ls hl
      have hxR : x ∈ R2 := by rw [eR]; exact List.mem_append_right _ (List.mem_cons_self ..)
      have hxn := ta_in hTA2 hxR
      have hlt : l1.length < R2.length := by rw [eR, List.length_append, List.length_cons]; omega
      have sN : N2 x = nI (hd_ 0 l2) := sg_hd0 (sg_app.mp (show sg N2 (N2 0) (l1 ++ x :: l2) 0 by rw [← eR]; exact hTN2.1)).2
      have hl : lv_has ls 5 [(0, .ref a), (1, .ref a2), (2, .int (nI R2.length)), (3, .int (nI x)), (4, .int (nI l1.length))] := hl
      have hstep : pj mv (njs jc (K2 x) Lc, st mv (K2 x) (V2 x) Lc) (kv K2 V2 l2) = pj mv (j, L) L2 := epj
      have hj1 := njs_le jc (K2 x) Lc
      have hj2 : njs jc (K2 x) Lc ≤ (pj mv (j, L) L2).1 := by rw [← hstep]; exact pj_le (njs jc (K2 x) Lc, st mv (K2 x) (V2 x) Lc)
      have hsl := st_len (mv := mv) (k := K2 x) (v := V2 x) (L := Lc)
      have hlc2 : Lc.length + (l2.length + 1) ≤ 1400 := hlc
      refine lv_iload hx hb d_tb_storeAllOf_15 (lv_at hl 4 rfl) ?_
      refine lv_iload_n hx hb d_tb_storeAllOf_17 rfl (lv_at hl 2 rfl) ?_
      refine lv_icmp_ge (tgt := 51) hx hb d_tb_storeAllOf_18 (by decide) (fun z9 => absurd z9 (nI_ge hlt hRl2)) (fun _ => ?_)
      refine lv_aload_n hx hb d_tb_storeAllOf_21 rfl (lv_at hl 0 rfl) ?_
      refine lv_aload_n hx hb d_tb_storeAllOf_22 rfl (lv_at hl 1 rfl) ?_
      refine va_get (D := D) (ci := 0) (v := .ref qk2) (C := R_tb) (T := F_tb) (N := 10) hx hb hts i_tb hown hK hP 0 rfl rfl 2 (by decide) (hts _ kf_tb_15) (fun _ h9 => h9) rfl d_tb_storeAllOf_23 ?_
      refine lv_iload_n hx hb d_tb_storeAllOf_26 rfl (lv_at hl 3 rfl) ?_
      refine wa_ld (k := x) hx hb hK hP 1 0 rfl rfl hxn.2.2 hn d_tb_storeAllOf_27 ?_
      refine lv_aload_n hx hb d_tb_storeAllOf_28 rfl (lv_at hl 1 rfl) ?_
      refine va_get (D := D) (ci := 0) (v := .ref qv2) (C := R_tb) (T := F_tb) (N := 10) hx hb hts i_tb hown hK hP 0 rfl rfl 3 (by decide) (hts _ kf_tb_19) (fun _ h9 => h9) rfl d_tb_storeAllOf_29 ?_
      refine lv_iload_n hx hb d_tb_storeAllOf_32 rfl (lv_at hl 3 rfl) ?_
      refine wa_ld (k := x) hx hb hK hP 2 0 rfl rfl hxn.2.2 hn d_tb_storeAllOf_33 ?_
      refine cg_V (hn := 2) (As := [.int (K2 x), .int (V2 x)]) (rest := []) (wr := tx cI a2 (mvI mv2) (nI R2.length) qk2 qv2 qb2 qf2 qh2 qc2 (2 ^ (4 + j2)) K2 V2 P2 N2 G2 C2 fl2 (nI mm2)) (q0 := 0) (ci := 0) hx hb hml hown hts (c_tb_store l D cI cT cP a mv jc Lc uc hT (K2 x) (V2 x) (by omega)) km_tb_56 ki_tb_store ks_tb_store kn_tb kc_tb_store (by decide +kernel) rfl ⟨Nat.le_of_ble_eq_true rfl, Nat.le_of_ble_eq_true rfl⟩ hK hP hD hS hA [7, 8, 9, 10, 11, 12, 13] [0, 1, 2, 3, 4, 5, 6] rfl (by decide) rfl (by decide) (by decide) rfl rfl hl.1 rfl (Nat.le_of_ble_eq_true rfl) d_tb_storeAllOf_34 ⟨by show _ ≤ mcT j (pj mv (j, L) L2).1; rw [mcT_add hjc hj1]; exact mcT_le hj2, by show _ ≤ msT j (pj mv (j, L) L2).1; rw [msT_add hjc hj1]; exact msT_le hj2⟩ (fun v u H locs hpost hP hD hS => ?_)
      obtain ⟨e9, hT3⟩ := hpost
      subst e9
      refine W.eq (g2 := F0 m 37 ls [.long (an (lk (K2 x) Lc))]) rfl ?_
      have hP : va_P D cls ((tx cI a2 (mvI mv2) (nI R2.length) qk2 qv2 qb2 qf2 qh2 qc2 (2 ^ (4 + j2)) K2 V2 P2 N2 G2 C2 fl2 (nI mm2)) ++ (tw cI a mv (njs jc (K2 x) Lc) u)) H := hP
      have hD : va_D A ((tx cI a2 (mvI mv2) (nI R2.length) qk2 qv2 qb2 qf2 qh2 qc2 (2 ^ (4 + j2)) K2 V2 P2 N2 G2 C2 fl2 (nI mm2)) ++ (tw cI a mv (njs jc (K2 x) Lc) u)) := hD
      refine W.widen (k := mcT j (njs jc (K2 x) Lc)) (n := msT j (njs jc (K2 x) Lc)) (Nat.le_of_eq (mcT_add hjc hj1)) (Nat.le_of_eq (msT_add hjc hj1)) ?_
      refine lv_pop2_2 hx hb d_tb_storeAllOf_37 rfl ?_
      refine lv_aload_n hx hb d_tb_storeAllOf_38 rfl (lv_at hl 1 rfl) ?_
      refine va_get (D := D) (ci := 0) (v := .ref qf2) (C := R_tb) (T := F_tb) (N := 10) hx hb hts i_tb hown hK hP 0 rfl rfl 5 (by decide) (hts _ kf_tb_25) (fun _ h9 => h9) rfl d_tb_storeAllOf_39 ?_
      refine lv_iload_n hx hb d_tb_storeAllOf_42 rfl (lv_at hl 3 rfl) ?_
      refine wa_ld (k := x) hx hb hK hP 4 0 rfl rfl hxn.2.2 hn d_tb_storeAllOf_43 ?_
      refine tp_i (y := nI (hd_ 0 l2)) sN ?_
      refine lv_istore_n (lv' := [(3, .int (nI (hd_ 0 l2))), (0, .ref a), (1, .ref a2), (2, .int (nI R2.length)), (4, .int (nI l1.length))]) hx hb d_tb_storeAllOf_44 rfl hl (by decide) rfl (fun ls hl => ?_)
      refine lv_iinc (v := nI (l1 ++ [x]).length) (lv' := [(4, .int (nI (l1 ++ [x]).length)), (3, .int (nI (hd_ 0 l2))), (0, .ref a), (1, .ref a2), (2, .int (nI R2.length))]) hx hb d_tb_storeAllOf_45 hl (k := 4) rfl (inc_l l1 x) (by decide) rfl (fun ls hl => ?_)
      refine lv_goto (tgt := 15) hx hb d_tb_storeAllOf_48 (by decide) ?_
      exact ih (l1 ++ [x]) _ _ u (by rw [eR]; simp) hT3 (Nat.le_trans hjc hj1) hstep (by omega) _ _ hP hD hS ls (lv_sub hl [2, 3, 4, 1, 0] rfl)
  refine W.widen (k := mcT j j) (n := msT j j) (Nat.zero_le _) (Nat.zero_le _) ?_
  exact loop R2 [] j L u0 rfl hL (Nat.le_refl _) (by rw [← eL2]) (by omega) _ _ hP hD hS ls (lv_sub hl [3, 4, 2, 1, 0] rfl)
def hka (L L2 : List (Int32 × Int32)) : Bool := L2.all (fun e => (lk e.1 L).isSome)
set_option maxRecDepth 100000 in
set_option maxHeartbeats 4000000 in
/-- holdsKeysOf(other) -/
theorem c_tb_holdsKeysOf (l : Launch) (D : va_G) (cI cT cP : ClassId) (a : Nat) (mv : Bool) (j : Nat) (L : List (Int32 × Int32)) (u0 : TB) (hL : TL j L u0) (a2 : Nat) (mv2 : Bool) (j2 : Nat) (L2 : List (Int32 × Int32)) (u2 : TB) (hL2 : TL j2 L2 u2) : Cg l y_tb_holdsKeysOf b_tb_holdsKeysOf 4 (some .boolean) 3 0 0 D (ty3 cI cT cP) [.ref a, .ref a2] ((tw cI a mv j u0) ++ (tw cI a2 mv2 j2 u2)) (fun (v : Option Value) (u : Unit) => v = some (.int (zI (hka L L2)))) (fun u => (tw cI a2 mv2 j2 u2) ++ (tw cI a mv j u0)) := by
  obtain ⟨qk2, qv2, qb2, qf2, qh2, qc2, K2, V2, P2, N2, G2, C2, fl2, mm2, R2⟩ := u2
  obtain ⟨Fr2, bl2, hTA2, hTN2, hTH2, hKn2, eL2⟩ := hL2
  have hTA2 : TA (2 ^ (4 + j2)) j2 mm2 R2 Fr2 := hTA2
  have hTN2 : TN P2 N2 R2 := hTN2
  have hTH2 : TH (2 ^ (4 + j2)) K2 G2 C2 fl2 R2 Fr2 bl2 := hTH2
  have hKn2 : (R2.map K2).Nodup := hKn2
  have eL2 : L2 = kv K2 V2 R2 := eL2
  have hLl2 : L2.length = R2.length := by rw [eL2]; exact List.length_map ..
  have hn2 : 2 ^ (4 + j2) < 2 ^ 31 := (ta_len hTA2).2.2
  have hRl2 : R2.length < 2 ^ 31 := (ta_len hTA2).2.1
  refine cg_enter rfl (Nat.le_of_ble_eq_true rfl) ?_
  intro p e s m below meth c args hx hb hr hlk hml hown hin hts A hA hK hP hD hS ls hl Q hQ
  have hl : lv_has ls 4 [(0, .ref a), (1, .ref a2)] := hl
  have hP : va_P D cls ((tw cI a mv j u0) ++ (tx cI a2 (mvI mv2) (nI R2.length) qk2 qv2 qb2 qf2 qh2 qc2 (2 ^ (4 + j2)) K2 V2 P2 N2 G2 C2 fl2 (nI mm2))) s.heap := hP
  have hD : va_D A ((tw cI a mv j u0) ++ (tx cI a2 (mvI mv2) (nI R2.length) qk2 qv2 qb2 qf2 qh2 qc2 (2 ^ (4 + j2)) K2 V2 P2 N2 G2 C2 fl2 (nI mm2))) := hD
  have hP : va_P D cls ((tx cI a2 (mvI mv2) (nI R2.length) qk2 qv2 qb2 qf2 qh2 qc2 (2 ^ (4 + j2)) K2 V2 P2 N2 G2 C2 fl2 (nI mm2)) ++ (tw cI a mv j u0)) s.heap := hP.sub [7, 8, 9, 10, 11, 12, 13, 0, 1, 2, 3, 4, 5, 6] rfl
  have hD : va_D A ((tx cI a2 (mvI mv2) (nI R2.length) qk2 qv2 qb2 qf2 qh2 qc2 (2 ^ (4 + j2)) K2 V2 P2 N2 G2 C2 fl2 (nI mm2)) ++ (tw cI a mv j u0)) := hD.sub [7, 8, 9, 10, 11, 12, 13, 0, 1, 2, 3, 4, 5, 6] (by decide) rfl
  have hn := hn2
  refine lv_aload_n hx hb d_tb_holdsKeysOf_0 rfl (lv_at hl 1 rfl) ?_
  refine va_get (D := D) (ci := 0) (v := .ref qf2) (C := R_tb) (T := F_tb) (N := 10) hx hb hts i_tb hown hK hP 0 rfl rfl 5 (by decide) (hts _ kf_tb_25) (fun _ h9 => h9) rfl d_tb_holdsKeysOf_1 ?_
  refine lv_iconst (v := 0) hx hb d_tb_holdsKeysOf_4 (by decide) ?_
  refine wa_ld (k := 0) hx hb hK hP 4 0 rfl rfl (by have := ta_n hTA2; omega) hn d_tb_holdsKeysOf_5 ?_
  refine tp_i (y := nI (hd_ 0 R2)) (sg_hd0 hTN2.1) ?_
  refine lv_istore_n (lv' := [(2, .int (nI (hd_ 0 R2))), (0, .ref a), (1, .ref a2)]) hx hb d_tb_holdsKeysOf_6 rfl hl (by decide) rfl (fun ls hl => ?_)
  refine lv_iconst (v := 0) hx hb d_tb_holdsKeysOf_7 (by decide) ?_
  refine lv_istore_n (lv' := [(3, .int 0), (2, .int (nI (hd_ 0 R2))), (0, .ref a), (1, .ref a2)]) hx hb d_tb_holdsKeysOf_8 rfl hl (by decide) rfl (fun ls hl => ?_)
  have loop : ∀ (l2 l1 : List Nat), R2 = l1 ++ l2 → (∀ y, y ∈ l1 → (lk (K2 y) L).isSome = true) → ∀ (H : Heap) (locs : List Loc), va_P D cls ((tx cI a2 (mvI mv2) (nI R2.length) qk2 qv2 qb2 qf2 qh2 qc2 (2 ^ (4 + j2)) K2 V2 P2 N2 G2 C2 fl2 (nI mm2)) ++ (tw cI a mv j u0)) H → va_D A ((tx cI a2 (mvI mv2) (nI R2.length) qk2 qv2 qb2 qf2 qh2 qc2 (2 ^ (4 + j2)) K2 V2 P2 N2 G2 C2 fl2 (nI mm2)) ++ (tw cI a mv j u0)) → va_S A s.heap H locs → ∀ ls : Array Slot, lv_has ls 4 [(0, .ref a), (1, .ref a2), (2, .int (nI (hd_ 0 l2))), (3, .int (nI l1.length))] → W p l e (rmL 3 0 0) s m args below meth c H locs 0 0 Q (F0 m 9 ls []) := by
    clear hP hD hS
    intro l2
    induction l2 with
    | nil =>
      intro l1 eR hall H locs hP hD hS ls hl
      have hl1 : l1 = R2 := by rw [eR, List.append_nil]
      have hf : hka L L2 = true := by
        rw [eL2]
        unfold hka kv
        rw [List.all_eq_true]
        intro q hq
        obtain ⟨y, hy, rfl⟩ := List.mem_map.mp hq
        exact hall y (by rw [hl1]; exact hy)
      refine lv_iload_n hx hb d_tb_holdsKeysOf_9 rfl (lv_at hl 3 rfl) ?_
      refine lv_aload_n hx hb d_tb_holdsKeysOf_10 rfl (lv_at hl 1 rfl) ?_
      refine va_get (D := D) (ci := 0) (v := .int (nI R2.length)) (C := R_tb) (T := F_tb) (N := 10) hx hb hts i_tb hown hK hP 0 rfl rfl 1 (by decide) (hts _ kf_tb_52) (fun _ h9 => h9) rfl d_tb_holdsKeysOf_11 ?_
      refine lv_icmp_ge (tgt := 45) hx hb d_tb_holdsKeysOf_14 (by decide) (fun _ => ?_) (fun z9 => absurd (by rw [hl1]; exact nI_le (Nat.le_refl _) hRl2) z9)
      refine lv_iconst (v := 1) hx hb d_tb_holdsKeysOf_45 (by decide) ?_
      exact cg_zret (u := ()) hQ hx hb hr hlk hK hP hD hS rfl (by rw [hf]; rfl) d_tb_holdsKeysOf_46
    | cons x l2 ih =>
      intro l1 eR hall H locs hP hD hS ls hl
      have hxR : x ∈ R2 := by rw [eR]; exact List.mem_append_right _ (List.mem_cons_self ..)
      have hxn := ta_in hTA2 hxR
      have hlt : l1.length < R2.length := by rw [eR, List.length_append, List.length_cons]; omega
      have sN : N2 x = nI (hd_ 0 l2) := sg_hd0 (sg_app.mp (show sg N2 (N2 0) (l1 ++ x :: l2) 0 by rw [← eR]; exact hTN2.1)).2
      have hl : lv_has ls 4 [(0, .ref a), (1, .ref a2), (2, .int (nI x)), (3, .int (nI l1.length))] := hl
      refine lv_iload_n hx hb d_tb_holdsKeysOf_9 rfl (lv_at hl 3 rfl) ?_
      refine lv_aload_n hx hb d_tb_holdsKeysOf_10 rfl (lv_at hl 1 rfl) ?_
      refine va_get (D := D) (ci := 0) (v := .int (nI R2.length)) (C := R_tb) (T := F_tb) (N := 10) hx hb hts i_tb hown hK hP 0 rfl rfl 1 (by decide) (hts _ kf_tb_52) (fun _ h9 => h9) rfl d_tb_holdsKeysOf_11 ?_
      refine lv_icmp_ge (tgt := 45) hx hb d_tb_holdsKeysOf_14 (by decide) (fun z9 => absurd z9 (nI_ge hlt hRl2)) (fun _ => ?_)
      refine lv_aload_n hx hb d_tb_holdsKeysOf_17 rfl (lv_at hl 0 rfl) ?_
      refine lv_aload_n hx hb d_tb_holdsKeysOf_18 rfl (lv_at hl 1 rfl) ?_
      refine va_get (D := D) (ci := 0) (v := .ref qk2) (C := R_tb) (T := F_tb) (N := 10) hx hb hts i_tb hown hK hP 0 rfl rfl 2 (by decide) (hts _ kf_tb_15) (fun _ h9 => h9) rfl d_tb_holdsKeysOf_19 ?_
      refine lv_iload_n hx hb d_tb_holdsKeysOf_22 rfl (lv_at hl 2 rfl) ?_
      refine wa_ld (k := x) hx hb hK hP 1 0 rfl rfl hxn.2.2 hn d_tb_holdsKeysOf_23 ?_
      refine cg_V (hn := 1) (As := [.int (K2 x)]) (rest := []) (wr := tx cI a2 (mvI mv2) (nI R2.length) qk2 qv2 qb2 qf2 qh2 qc2 (2 ^ (4 + j2)) K2 V2 P2 N2 G2 C2 fl2 (nI mm2)) (q0 := 0) (ci := 0) hx hb hml hown hts (c_tb_holdsKey l D cI cT cP a mv j L u0 hL (K2 x)) km_tb_81 ki_tb_holdsKey ks_tb_holdsKey kn_tb kc_tb_holdsKey (by decide +kernel) rfl ⟨Nat.le_of_ble_eq_true rfl, Nat.le_of_ble_eq_true rfl⟩ hK hP hD hS hA [7, 8, 9, 10, 11, 12, 13] [0, 1, 2, 3, 4, 5, 6] rfl (by decide) rfl (by decide) (by decide) rfl rfl hl.1 rfl (Nat.le_of_ble_eq_true rfl) d_tb_holdsKeysOf_24 ⟨Nat.zero_le _, Nat.zero_le _⟩ (fun v u H locs hpost hP hD hS => ?_)
      subst hpost
      refine W.eq (g2 := F0 m 27 ls [.int (zI (lk (K2 x) L).isSome)]) rfl ?_
      have hP : va_P D cls ((tx cI a2 (mvI mv2) (nI R2.length) qk2 qv2 qb2 qf2 qh2 qc2 (2 ^ (4 + j2)) K2 V2 P2 N2 G2 C2 fl2 (nI mm2)) ++ (tw cI a mv j u0)) H := hP
      have hD : va_D A ((tx cI a2 (mvI mv2) (nI R2.length) qk2 qv2 qb2 qf2 qh2 qc2 (2 ^ (4 + j2)) K2 V2 P2 N2 G2 C2 fl2 (nI mm2)) ++ (tw cI a mv j u0)) := hD
      cases hkx : (lk (K2 x) L).isSome with
      | false =>
        refine lv_if_ne (tgt := 32) hx hb d_tb_holdsKeysOf_27 (by decide) (fun z9 => absurd rfl z9) (fun _ => ?_)
        refine lv_iconst (v := 0) hx hb d_tb_holdsKeysOf_30 (by decide) ?_
        exact cg_zret (u := ()) hQ hx hb hr hlk hK hP hD hS rfl (by rw [show hka L L2 = false from by rw [eL2]; unfold hka kv; rw [List.all_eq_false]; exact ⟨_, List.mem_map.mpr ⟨x, hxR, rfl⟩, by simp [hkx]⟩]; rfl) d_tb_holdsKeysOf_31
      | true =>
        refine lv_if_ne (tgt := 32) hx hb d_tb_holdsKeysOf_27 (by decide) (fun _ => ?_) (fun z9 => absurd z9 (by decide))
        refine lv_aload_n hx hb d_tb_holdsKeysOf_32 rfl (lv_at hl 1 rfl) ?_
        refine va_get (D := D) (ci := 0) (v := .ref qf2) (C := R_tb) (T := F_tb) (N := 10) hx hb hts i_tb hown hK hP 0 rfl rfl 5 (by decide) (hts _ kf_tb_25) (fun _ h9 => h9) rfl d_tb_holdsKeysOf_33 ?_
        refine lv_iload_n hx hb d_tb_holdsKeysOf_36 rfl (lv_at hl 2 rfl) ?_
        refine wa_ld (k := x) hx hb hK hP 4 0 rfl rfl hxn.2.2 hn d_tb_holdsKeysOf_37 ?_
        refine tp_i (y := nI (hd_ 0 l2)) sN ?_
        refine lv_istore_n (lv' := [(2, .int (nI (hd_ 0 l2))), (0, .ref a), (1, .ref a2), (3, .int (nI l1.length))]) hx hb d_tb_holdsKeysOf_38 rfl hl (by decide) rfl (fun ls hl => ?_)
        refine lv_iinc (v := nI (l1 ++ [x]).length) (lv' := [(3, .int (nI (l1 ++ [x]).length)), (2, .int (nI (hd_ 0 l2))), (0, .ref a), (1, .ref a2)]) hx hb d_tb_holdsKeysOf_39 hl (k := 3) rfl (inc_l l1 x) (by decide) rfl (fun ls hl => ?_)
        refine lv_goto (tgt := 9) hx hb d_tb_holdsKeysOf_42 (by decide) ?_
        exact ih (l1 ++ [x]) (by rw [eR]; simp) (fun y hy => by
            rcases List.mem_append.mp hy with h1 | h1
            · exact hall y h1
            · rw [List.mem_singleton.mp h1]; exact hkx) _ _ hP hD hS ls (lv_sub hl [2, 3, 1, 0] rfl)
  exact loop R2 [] rfl (fun y hy => absurd hy List.not_mem_nil) _ _ hP hD hS ls (lv_sub hl [2, 3, 1, 0] rfl)
def mt (L L2 : List (Int32 × Int32)) : Bool := decide (L.length = L2.length) && L.all (fun e => decide (lk e.1 L2 = some e.2))
set_option maxRecDepth 100000 in
set_option maxHeartbeats 4000000 in
/-- matches(other) -/
theorem c_tb_matches (l : Launch) (D : va_G) (cI cT cP : ClassId) (a : Nat) (mv : Bool) (j : Nat) (L : List (Int32 × Int32)) (u0 : TB) (hL : TL j L u0) (a2 : Nat) (mv2 : Bool) (j2 : Nat) (L2 : List (Int32 × Int32)) (u2 : TB) (hL2 : TL j2 L2 u2) : Cg l y_tb_matches b_tb_matches 5 (some .boolean) 2 0 0 D (ty3 cI cT cP) [.ref a, .ref a2] ((tw cI a mv j u0) ++ (tw cI a2 mv2 j2 u2)) (fun (v : Option Value) (u : Unit) => v = some (.int (zI (mt L L2)))) (fun u => (tw cI a mv j u0) ++ (tw cI a2 mv2 j2 u2)) := by
  obtain ⟨qk, qv, qb, qf, qh, qc, K, V, P, N, G, C, fl, mm, R⟩ := u0
  obtain ⟨Fr, bl, hTA, hTN, hTH, hKn, eL⟩ := hL
  have hTA : TA (2 ^ (4 + j)) j mm R Fr := hTA
  have hTN : TN P N R := hTN
  have hTH : TH (2 ^ (4 + j)) K G C fl R Fr bl := hTH
  have hKn : (R.map K).Nodup := hKn
  have eL : L = kv K V R := eL
  have hLl : L.length = R.length := by rw [eL]; exact List.length_map ..
  have hn : 2 ^ (4 + j) < 2 ^ 31 := (ta_len hTA).2.2
  have hRl : R.length < 2 ^ 31 := (ta_len hTA).2.1
  obtain ⟨qk2, qv2, qb2, qf2, qh2, qc2, K2, V2, P2, N2, G2, C2, fl2, mm2, R2⟩ := u2
  obtain ⟨Fr2, bl2, hTA2, hTN2, hTH2, hKn2, eL2⟩ := hL2
  have hTA2 : TA (2 ^ (4 + j2)) j2 mm2 R2 Fr2 := hTA2
  have hTN2 : TN P2 N2 R2 := hTN2
  have hTH2 : TH (2 ^ (4 + j2)) K2 G2 C2 fl2 R2 Fr2 bl2 := hTH2
  have hKn2 : (R2.map K2).Nodup := hKn2
  have eL2 : L2 = kv K2 V2 R2 := eL2
  have hLl2 : L2.length = R2.length := by rw [eL2]; exact List.length_map ..
  have hn2 : 2 ^ (4 + j2) < 2 ^ 31 := (ta_len hTA2).2.2
  have hRl2 : R2.length < 2 ^ 31 := (ta_len hTA2).2.1
  refine cg_enter rfl (Nat.le_of_ble_eq_true rfl) ?_
  intro p e s m below meth c args hx hb hr hlk hml hown hin hts A hA hK hP hD hS ls hl Q hQ
  have hl : lv_has ls 5 [(0, .ref a), (1, .ref a2)] := hl
  have hP : va_P D cls ((tx cI a (mvI mv) (nI R.length) qk qv qb qf qh qc (2 ^ (4 + j)) K V P N G C fl (nI mm)) ++ (tx cI a2 (mvI mv2) (nI R2.length) qk2 qv2 qb2 qf2 qh2 qc2 (2 ^ (4 + j2)) K2 V2 P2 N2 G2 C2 fl2 (nI mm2))) s.heap := hP
  have hD : va_D A ((tx cI a (mvI mv) (nI R.length) qk qv qb qf qh qc (2 ^ (4 + j)) K V P N G C fl (nI mm)) ++ (tx cI a2 (mvI mv2) (nI R2.length) qk2 qv2 qb2 qf2 qh2 qc2 (2 ^ (4 + j2)) K2 V2 P2 N2 G2 C2 fl2 (nI mm2))) := hD
  refine lv_aload_n hx hb d_tb_matches_0 rfl (lv_at hl 0 rfl) ?_
  refine va_get (D := D) (ci := 0) (v := .int (nI R.length)) (C := R_tb) (T := F_tb) (N := 10) hx hb hts i_tb hown hK hP 0 rfl rfl 1 (by decide) (hts _ kf_tb_52) (fun _ h9 => h9) rfl d_tb_matches_1 ?_
  refine lv_aload_n hx hb d_tb_matches_4 rfl (lv_at hl 1 rfl) ?_
  refine va_get (D := D) (ci := 0) (v := .int (nI R2.length)) (C := R_tb) (T := F_tb) (N := 10) hx hb hts i_tb hown hK hP 7 rfl rfl 1 (by decide) (hts _ kf_tb_52) (fun _ h9 => h9) rfl d_tb_matches_5 ?_
  refine lv_icmp_eq (tgt := 13) hx hb d_tb_matches_8 (by decide) (fun c1 => ?_) (fun c1 => ?_)
  rotate_left
  · refine lv_iconst (v := 0) hx hb d_tb_matches_11 (by decide) ?_
    exact cg_zret (u := ()) hQ hx hb hr hlk hK hP hD hS rfl (by rw [show mt L L2 = false from by unfold mt; rw [decide_eq_false (fun z9 => c1 (by rw [← hLl, ← hLl2, z9])), Bool.false_and]]; rfl) d_tb_matches_12
  · have c1 : L.length = L2.length := by rw [hLl, hLl2]; exact (nI_eq hRl hRl2).mp c1
    refine lv_aload_n hx hb d_tb_matches_13 rfl (lv_at hl 0 rfl) ?_
    refine va_get (D := D) (ci := 0) (v := .ref qf) (C := R_tb) (T := F_tb) (N := 10) hx hb hts i_tb hown hK hP 0 rfl rfl 5 (by decide) (hts _ kf_tb_25) (fun _ h9 => h9) rfl d_tb_matches_14 ?_
    refine lv_iconst (v := 0) hx hb d_tb_matches_17 (by decide) ?_
    refine wa_ld (k := 0) hx hb hK hP 4 0 rfl rfl (by have := ta_n hTA; omega) hn d_tb_matches_18 ?_
    refine tp_i (y := nI (hd_ 0 R)) (sg_hd0 hTN.1) ?_
    refine lv_istore_n (lv' := [(2, .int (nI (hd_ 0 R))), (0, .ref a), (1, .ref a2)]) hx hb d_tb_matches_19 rfl hl (by decide) rfl (fun ls hl => ?_)
    refine lv_iconst (v := 0) hx hb d_tb_matches_20 (by decide) ?_
    refine lv_istore_n (lv' := [(3, .int 0), (2, .int (nI (hd_ 0 R))), (0, .ref a), (1, .ref a2)]) hx hb d_tb_matches_21 rfl hl (by decide) rfl (fun ls hl => ?_)
    have loop : ∀ (l2 l1 : List Nat), R = l1 ++ l2 → (∀ y, y ∈ l1 → lk (K y) L2 = some (V y)) → ∀ (H : Heap) (locs : List Loc), va_P D cls ((tx cI a (mvI mv) (nI R.length) qk qv qb qf qh qc (2 ^ (4 + j)) K V P N G C fl (nI mm)) ++ (tx cI a2 (mvI mv2) (nI R2.length) qk2 qv2 qb2 qf2 qh2 qc2 (2 ^ (4 + j2)) K2 V2 P2 N2 G2 C2 fl2 (nI mm2))) H → va_D A ((tx cI a (mvI mv) (nI R.length) qk qv qb qf qh qc (2 ^ (4 + j)) K V P N G C fl (nI mm)) ++ (tx cI a2 (mvI mv2) (nI R2.length) qk2 qv2 qb2 qf2 qh2 qc2 (2 ^ (4 + j2)) K2 V2 P2 N2 G2 C2 fl2 (nI mm2))) → va_S A s.heap H locs → ∀ ls : Array Slot, lv_has ls 5 [(0, .ref a), (1, .ref a2), (2, .int (nI (hd_ 0 l2))), (3, .int (nI l1.length))] → W p l e (rmL 2 0 0) s m args below meth c H locs 0 0 Q (F0 m 22 ls []) := by
      clear hP hD hS
      intro l2
      induction l2 with
      | nil =>
        intro l1 eR hall H locs hP hD hS ls hl
        have hl1 : l1 = R := by rw [eR, List.append_nil]
        have hf : mt L L2 = true := by
          unfold mt
          rw [decide_eq_true c1, Bool.true_and, eL]
          unfold kv
          rw [List.all_eq_true]
          intro q hq
          obtain ⟨y, hy, rfl⟩ := List.mem_map.mp hq
          exact decide_eq_true (hall y (by rw [hl1]; exact hy))
        refine lv_iload_n hx hb d_tb_matches_22 rfl (lv_at hl 3 rfl) ?_
        refine lv_aload_n hx hb d_tb_matches_23 rfl (lv_at hl 0 rfl) ?_
        refine va_get (D := D) (ci := 0) (v := .int (nI R.length)) (C := R_tb) (T := F_tb) (N := 10) hx hb hts i_tb hown hK hP 0 rfl rfl 1 (by decide) (hts _ kf_tb_52) (fun _ h9 => h9) rfl d_tb_matches_24 ?_
        refine lv_icmp_ge (tgt := 78) hx hb d_tb_matches_27 (by decide) (fun _ => ?_) (fun z9 => absurd (by rw [hl1]; exact nI_le (Nat.le_refl _) hRl) z9)
        refine lv_iconst (v := 1) hx hb d_tb_matches_78 (by decide) ?_
        exact cg_zret (u := ()) hQ hx hb hr hlk hK hP hD hS rfl (by rw [hf]; rfl) d_tb_matches_79
      | cons x l2 ih =>
        intro l1 eR hall H locs hP hD hS ls hl
        have hxR : x ∈ R := by rw [eR]; exact List.mem_append_right _ (List.mem_cons_self ..)
        have hxn := ta_in hTA hxR
        have hlt : l1.length < R.length := by rw [eR, List.length_append, List.length_cons]; omega
        have sN : N x = nI (hd_ 0 l2) := sg_hd0 (sg_app.mp (show sg N (N 0) (l1 ++ x :: l2) 0 by rw [← eR]; exact hTN.1)).2
        have hl : lv_has ls 5 [(0, .ref a), (1, .ref a2), (2, .int (nI x)), (3, .int (nI l1.length))] := hl
        refine lv_iload_n hx hb d_tb_matches_22 rfl (lv_at hl 3 rfl) ?_
        refine lv_aload_n hx hb d_tb_matches_23 rfl (lv_at hl 0 rfl) ?_
        refine va_get (D := D) (ci := 0) (v := .int (nI R.length)) (C := R_tb) (T := F_tb) (N := 10) hx hb hts i_tb hown hK hP 0 rfl rfl 1 (by decide) (hts _ kf_tb_52) (fun _ h9 => h9) rfl d_tb_matches_24 ?_
        refine lv_icmp_ge (tgt := 78) hx hb d_tb_matches_27 (by decide) (fun z9 => absurd z9 (nI_ge hlt hRl)) (fun _ => ?_)
        refine lv_aload_n hx hb d_tb_matches_30 rfl (lv_at hl 1 rfl) ?_
        refine lv_aload_n hx hb d_tb_matches_31 rfl (lv_at hl 0 rfl) ?_
        refine va_get (D := D) (ci := 0) (v := .ref qk) (C := R_tb) (T := F_tb) (N := 10) hx hb hts i_tb hown hK hP 0 rfl rfl 2 (by decide) (hts _ kf_tb_15) (fun _ h9 => h9) rfl d_tb_matches_32 ?_
        refine lv_iload_n hx hb d_tb_matches_35 rfl (lv_at hl 2 rfl) ?_
        refine wa_ld (k := x) hx hb hK hP 1 0 rfl rfl hxn.2.2 hn d_tb_matches_36 ?_
        refine cg_V (hn := 1) (As := [.int (K x)]) (rest := []) (wr := tx cI a (mvI mv) (nI R.length) qk qv qb qf qh qc (2 ^ (4 + j)) K V P N G C fl (nI mm)) (q0 := 0) (ci := 0) hx hb hml hown hts (c_tb_slotOf l D cI cT cP a2 (mvI mv2) qk2 qv2 qb2 qf2 qh2 qc2 (2 ^ (4 + j2)) K2 V2 P2 N2 G2 C2 fl2 (nI mm2) j2 mm2 R2 Fr2 bl2 hTA2 hTH2 hKn2 (K x)) km_tb_34 ki_tb_slotOf ks_tb_slotOf kn_tb kc_tb_slotOf (by decide +kernel) rfl ⟨Nat.le_of_ble_eq_true rfl, Nat.le_of_ble_eq_true rfl⟩ hK hP hD hS hA [7, 8, 9, 10, 11, 12, 13] [0, 1, 2, 3, 4, 5, 6] rfl (by decide) rfl (by decide) (by decide) rfl rfl hl.1 rfl (Nat.le_of_ble_eq_true rfl) d_tb_matches_37 ⟨Nat.zero_le _, Nat.zero_le _⟩ (fun v u H locs hpost hP hD hS => ?_)
        subst hpost
        refine W.eq (g2 := F0 m 40 ls [.int (nI (sl K2 (K x) R2))]) rfl ?_
        have hP : va_P D cls ((tx cI a (mvI mv) (nI R.length) qk qv qb qf qh qc (2 ^ (4 + j)) K V P N G C fl (nI mm)) ++ (tx cI a2 (mvI mv2) (nI R2.length) qk2 qv2 qb2 qf2 qh2 qc2 (2 ^ (4 + j2)) K2 V2 P2 N2 G2 C2 fl2 (nI mm2))) H := hP
        have hD : va_D A ((tx cI a (mvI mv) (nI R.length) qk qv qb qf qh qc (2 ^ (4 + j)) K V P N G C fl (nI mm)) ++ (tx cI a2 (mvI mv2) (nI R2.length) qk2 qv2 qb2 qf2 qh2 qc2 (2 ^ (4 + j2)) K2 V2 P2 N2 G2 C2 fl2 (nI mm2))) := hD
        rcases sl_cases K2 (K x) R2 with ⟨e0, hno⟩ | ⟨hyR, hke⟩
        · rw [e0]
          have hnx : ¬ lk (K x) L2 = some (V x) := by rw [eL2, kv_out hno]; simp
          refine lv_istore (lv' := [(4, .int (nI 0)), (0, .ref a), (1, .ref a2), (2, .int (nI x)), (3, .int (nI l1.length))]) hx hb d_tb_matches_40 hl (by decide) rfl (fun ls hl => ?_)
          refine lv_iload hx hb d_tb_matches_42 (lv_at hl 0 rfl) ?_
          refine lv_if_eq (tgt := 63) hx hb d_tb_matches_44 (by decide) (fun _ => ?_) (fun z9 => absurd rfl z9)
          refine lv_iconst (v := 0) hx hb d_tb_matches_63 (by decide) ?_
          exact cg_zret (u := ()) hQ hx hb hr hlk hK hP hD hS rfl (by rw [show mt L L2 = false from by
                unfold mt
                rw [decide_eq_true c1, Bool.true_and, eL]
                unfold kv
                rw [List.all_eq_false]
                exact ⟨_, List.mem_map.mpr ⟨x, hxR, rfl⟩, by simpa using hnx⟩]; rfl) d_tb_matches_64
        · generalize sl K2 (K x) R2 = y at *
          have hyn := ta_in hTA2 hyR
          have hky : lk (K x) L2 = some (V2 y) := by rw [eL2, ← hke]; exact kv_at hyR hKn2
          refine lv_istore (lv' := [(4, .int (nI y)), (0, .ref a), (1, .ref a2), (2, .int (nI x)), (3, .int (nI l1.length))]) hx hb d_tb_matches_40 hl (by decide) rfl (fun ls hl => ?_)
          refine lv_iload hx hb d_tb_matches_42 (lv_at hl 0 rfl) ?_
          refine lv_if_eq (tgt := 63) hx hb d_tb_matches_44 (by decide) (fun z9 => absurd z9 (nI_ne0 hyn.1 (by omega))) (fun _ => ?_)
          have hn_ := hn
          have hn := hn2
          refine lv_aload_n hx hb d_tb_matches_47 rfl (lv_at hl 2 rfl) ?_
          refine va_get (D := D) (ci := 0) (v := .ref qv2) (C := R_tb) (T := F_tb) (N := 10) hx hb hts i_tb hown hK hP 7 rfl rfl 3 (by decide) (hts _ kf_tb_19) (fun _ h9 => h9) rfl d_tb_matches_48 ?_
          refine lv_iload hx hb d_tb_matches_51 (lv_at hl 0 rfl) ?_
          refine wa_ld (k := y) hx hb hK hP 9 0 rfl rfl hyn.2.2 hn d_tb_matches_53 ?_
          have hn := hn_
          refine lv_aload_n hx hb d_tb_matches_54 rfl (lv_at hl 1 rfl) ?_
          refine va_get (D := D) (ci := 0) (v := .ref qv) (C := R_tb) (T := F_tb) (N := 10) hx hb hts i_tb hown hK hP 0 rfl rfl 3 (by decide) (hts _ kf_tb_19) (fun _ h9 => h9) rfl d_tb_matches_55 ?_
          refine lv_iload_n hx hb d_tb_matches_58 rfl (lv_at hl 3 rfl) ?_
          refine wa_ld (k := x) hx hb hK hP 2 0 rfl rfl hxn.2.2 hn d_tb_matches_59 ?_
          refine lv_icmp_eq (tgt := 65) hx hb d_tb_matches_60 (by decide) (fun c2 => ?_) (fun c2 => ?_)
          · have hkx : lk (K x) L2 = some (V x) := by rw [hky, c2]
            refine lv_aload_n hx hb d_tb_matches_65 rfl (lv_at hl 1 rfl) ?_
            refine va_get (D := D) (ci := 0) (v := .ref qf) (C := R_tb) (T := F_tb) (N := 10) hx hb hts i_tb hown hK hP 0 rfl rfl 5 (by decide) (hts _ kf_tb_25) (fun _ h9 => h9) rfl d_tb_matches_66 ?_
            refine lv_iload_n hx hb d_tb_matches_69 rfl (lv_at hl 3 rfl) ?_
            refine wa_ld (k := x) hx hb hK hP 4 0 rfl rfl hxn.2.2 hn d_tb_matches_70 ?_
            refine tp_i (y := nI (hd_ 0 l2)) sN ?_
            refine lv_istore_n (lv' := [(2, .int (nI (hd_ 0 l2))), (4, .int (nI y)), (0, .ref a), (1, .ref a2), (3, .int (nI l1.length))]) hx hb d_tb_matches_71 rfl hl (by decide) rfl (fun ls hl => ?_)
            refine lv_iinc (v := nI (l1 ++ [x]).length) (lv' := [(3, .int (nI (l1 ++ [x]).length)), (2, .int (nI (hd_ 0 l2))), (4, .int (nI y)), (0, .ref a), (1, .ref a2)]) hx hb d_tb_matches_72 hl (k := 4) rfl (inc_l l1 x) (by decide) rfl (fun ls hl => ?_)
            refine lv_goto (tgt := 22) hx hb d_tb_matches_75 (by decide) ?_
            exact ih (l1 ++ [x]) (by rw [eR]; simp) (fun y hy => by
                rcases List.mem_append.mp hy with h1 | h1
                · exact hall y h1
                · rw [List.mem_singleton.mp h1]; exact hkx) _ _ hP hD hS ls (lv_sub hl [3, 4, 1, 0] rfl)
          · have hnx : ¬ lk (K x) L2 = some (V x) := by rw [hky]; exact fun z9 => c2 (Option.some.inj z9)
            refine lv_iconst (v := 0) hx hb d_tb_matches_63 (by decide) ?_
            exact cg_zret (u := ()) hQ hx hb hr hlk hK hP hD hS rfl (by rw [show mt L L2 = false from by
                  unfold mt
                  rw [decide_eq_true c1, Bool.true_and, eL]
                  unfold kv
                  rw [List.all_eq_false]
                  exact ⟨_, List.mem_map.mpr ⟨x, hxR, rfl⟩, by simpa using hnx⟩]; rfl) d_tb_matches_64
    exact loop R [] rfl (fun y hy => absurd hy List.not_mem_nil) _ _ hP hD hS ls (lv_sub hl [2, 3, 1, 0] rfl)
set_option maxRecDepth 100000 in
set_option maxHeartbeats 4000000 in
/-- matches(itself) -/
theorem c_tb_matches_self (l : Launch) (D : va_G) (cI cT cP : ClassId) (a : Nat) (mv : Bool) (j : Nat) (L : List (Int32 × Int32)) (u0 : TB) (hL : TL j L u0) : Cg l y_tb_matches b_tb_matches 5 (some .boolean) 2 0 0 D (ty3 cI cT cP) [.ref a, .ref a] (tw cI a mv j u0) (fun (v : Option Value) (u : Unit) => v = some (.int 1)) (fun u => tw cI a mv j u0) := by
  obtain ⟨qk, qv, qb, qf, qh, qc, K, V, P, N, G, C, fl, mm, R⟩ := u0
  obtain ⟨Fr, bl, hTA, hTN, hTH, hKn, eL⟩ := hL
  have hTA : TA (2 ^ (4 + j)) j mm R Fr := hTA
  have hTN : TN P N R := hTN
  have hTH : TH (2 ^ (4 + j)) K G C fl R Fr bl := hTH
  have hKn : (R.map K).Nodup := hKn
  have eL : L = kv K V R := eL
  have hLl : L.length = R.length := by rw [eL]; exact List.length_map ..
  have hn : 2 ^ (4 + j) < 2 ^ 31 := (ta_len hTA).2.2
  have hRl : R.length < 2 ^ 31 := (ta_len hTA).2.1
  refine cg_enter rfl (Nat.le_of_ble_eq_true rfl) ?_
  intro p e s m below meth c args hx hb hr hlk hml hown hin hts A hA hK hP hD hS ls hl Q hQ
  have hl : lv_has ls 5 [(0, .ref a), (1, .ref a)] := hl
  have hP : va_P D cls (tx cI a (mvI mv) (nI R.length) qk qv qb qf qh qc (2 ^ (4 + j)) K V P N G C fl (nI mm)) s.heap := hP
  have hD : va_D A (tx cI a (mvI mv) (nI R.length) qk qv qb qf qh qc (2 ^ (4 + j)) K V P N G C fl (nI mm)) := hD
  refine lv_aload_n hx hb d_tb_matches_0 rfl (lv_at hl 0 rfl) ?_
  refine va_get (D := D) (ci := 0) (v := .int (nI R.length)) (C := R_tb) (T := F_tb) (N := 10) hx hb hts i_tb hown hK hP 0 rfl rfl 1 (by decide) (hts _ kf_tb_52) (fun _ h9 => h9) rfl d_tb_matches_1 ?_
  refine lv_aload_n hx hb d_tb_matches_4 rfl (lv_at hl 1 rfl) ?_
  refine va_get (D := D) (ci := 0) (v := .int (nI R.length)) (C := R_tb) (T := F_tb) (N := 10) hx hb hts i_tb hown hK hP 0 rfl rfl 1 (by decide) (hts _ kf_tb_52) (fun _ h9 => h9) rfl d_tb_matches_5 ?_
  refine lv_icmp_eq (tgt := 13) hx hb d_tb_matches_8 (by decide) (fun _ => ?_) (fun z9 => absurd rfl z9)
  refine lv_aload_n hx hb d_tb_matches_13 rfl (lv_at hl 0 rfl) ?_
  refine va_get (D := D) (ci := 0) (v := .ref qf) (C := R_tb) (T := F_tb) (N := 10) hx hb hts i_tb hown hK hP 0 rfl rfl 5 (by decide) (hts _ kf_tb_25) (fun _ h9 => h9) rfl d_tb_matches_14 ?_
  refine lv_iconst (v := 0) hx hb d_tb_matches_17 (by decide) ?_
  refine wa_ld (k := 0) hx hb hK hP 4 0 rfl rfl (by have := ta_n hTA; omega) hn d_tb_matches_18 ?_
  refine tp_i (y := nI (hd_ 0 R)) (sg_hd0 hTN.1) ?_
  refine lv_istore_n (lv' := [(2, .int (nI (hd_ 0 R))), (0, .ref a), (1, .ref a)]) hx hb d_tb_matches_19 rfl hl (by decide) rfl (fun ls hl => ?_)
  refine lv_iconst (v := 0) hx hb d_tb_matches_20 (by decide) ?_
  refine lv_istore_n (lv' := [(3, .int 0), (2, .int (nI (hd_ 0 R))), (0, .ref a), (1, .ref a)]) hx hb d_tb_matches_21 rfl hl (by decide) rfl (fun ls hl => ?_)
  have loop : ∀ (l2 l1 : List Nat), R = l1 ++ l2 → (∀ y, y ∈ l1 → lk (K y) L = some (V y)) → ∀ (H : Heap) (locs : List Loc), va_P D cls (tx cI a (mvI mv) (nI R.length) qk qv qb qf qh qc (2 ^ (4 + j)) K V P N G C fl (nI mm)) H → va_D A (tx cI a (mvI mv) (nI R.length) qk qv qb qf qh qc (2 ^ (4 + j)) K V P N G C fl (nI mm)) → va_S A s.heap H locs → ∀ ls : Array Slot, lv_has ls 5 [(0, .ref a), (1, .ref a), (2, .int (nI (hd_ 0 l2))), (3, .int (nI l1.length))] → W p l e (rmL 2 0 0) s m args below meth c H locs 0 0 Q (F0 m 22 ls []) := by
    clear hP hD hS
    intro l2
    induction l2 with
    | nil =>
      intro l1 eR hall H locs hP hD hS ls hl
      have hl1 : l1 = R := by rw [eR, List.append_nil]
      refine lv_iload_n hx hb d_tb_matches_22 rfl (lv_at hl 3 rfl) ?_
      refine lv_aload_n hx hb d_tb_matches_23 rfl (lv_at hl 0 rfl) ?_
      refine va_get (D := D) (ci := 0) (v := .int (nI R.length)) (C := R_tb) (T := F_tb) (N := 10) hx hb hts i_tb hown hK hP 0 rfl rfl 1 (by decide) (hts _ kf_tb_52) (fun _ h9 => h9) rfl d_tb_matches_24 ?_
      refine lv_icmp_ge (tgt := 78) hx hb d_tb_matches_27 (by decide) (fun _ => ?_) (fun z9 => absurd (by rw [hl1]; exact nI_le (Nat.le_refl _) hRl) z9)
      refine lv_iconst (v := 1) hx hb d_tb_matches_78 (by decide) ?_
      exact cg_zret (u := ()) hQ hx hb hr hlk hK hP hD hS rfl rfl d_tb_matches_79
    | cons x l2 ih =>
      intro l1 eR hall H locs hP hD hS ls hl
      have hxR : x ∈ R := by rw [eR]; exact List.mem_append_right _ (List.mem_cons_self ..)
      have hxn := ta_in hTA hxR
      have hlt : l1.length < R.length := by rw [eR, List.length_append, List.length_cons]; omega
      have sN : N x = nI (hd_ 0 l2) := sg_hd0 (sg_app.mp (show sg N (N 0) (l1 ++ x :: l2) 0 by rw [← eR]; exact hTN.1)).2
      have hl : lv_has ls 5 [(0, .ref a), (1, .ref a), (2, .int (nI x)), (3, .int (nI l1.length))] := hl
      refine lv_iload_n hx hb d_tb_matches_22 rfl (lv_at hl 3 rfl) ?_
      refine lv_aload_n hx hb d_tb_matches_23 rfl (lv_at hl 0 rfl) ?_
      refine va_get (D := D) (ci := 0) (v := .int (nI R.length)) (C := R_tb) (T := F_tb) (N := 10) hx hb hts i_tb hown hK hP 0 rfl rfl 1 (by decide) (hts _ kf_tb_52) (fun _ h9 => h9) rfl d_tb_matches_24 ?_
      refine lv_icmp_ge (tgt := 78) hx hb d_tb_matches_27 (by decide) (fun z9 => absurd z9 (nI_ge hlt hRl)) (fun _ => ?_)
      refine lv_aload_n hx hb d_tb_matches_30 rfl (lv_at hl 1 rfl) ?_
      refine lv_aload_n hx hb d_tb_matches_31 rfl (lv_at hl 0 rfl) ?_
      refine va_get (D := D) (ci := 0) (v := .ref qk) (C := R_tb) (T := F_tb) (N := 10) hx hb hts i_tb hown hK hP 0 rfl rfl 2 (by decide) (hts _ kf_tb_15) (fun _ h9 => h9) rfl d_tb_matches_32 ?_
      refine lv_iload_n hx hb d_tb_matches_35 rfl (lv_at hl 2 rfl) ?_
      refine wa_ld (k := x) hx hb hK hP 1 0 rfl rfl hxn.2.2 hn d_tb_matches_36 ?_
      refine cg_V (hn := 1) (As := [.int (K x)]) (rest := []) (wr := []) (q0 := 0) (ci := 0) hx hb hml hown hts (c_tb_slotOf l D cI cT cP a (mvI mv) qk qv qb qf qh qc (2 ^ (4 + j)) K V P N G C fl (nI mm) j mm R Fr bl hTA hTH hKn (K x)) km_tb_34 ki_tb_slotOf ks_tb_slotOf kn_tb kc_tb_slotOf (by decide +kernel) rfl ⟨Nat.le_of_ble_eq_true rfl, Nat.le_of_ble_eq_true rfl⟩ hK hP hD hS hA [0, 1, 2, 3, 4, 5, 6] [] rfl (by decide) rfl (by decide) (by decide) rfl rfl hl.1 rfl (Nat.le_of_ble_eq_true rfl) d_tb_matches_37 ⟨Nat.zero_le _, Nat.zero_le _⟩ (fun v u H locs hpost hP hD hS => ?_)
      subst hpost
      refine W.eq (g2 := F0 m 40 ls [.int (nI (sl K (K x) R))]) rfl ?_
      have hP : va_P D cls (tx cI a (mvI mv) (nI R.length) qk qv qb qf qh qc (2 ^ (4 + j)) K V P N G C fl (nI mm)) H := hP
      have hD : va_D A (tx cI a (mvI mv) (nI R.length) qk qv qb qf qh qc (2 ^ (4 + j)) K V P N G C fl (nI mm)) := hD
      have esl : sl K (K x) R = x := sl_eq hKn hxR rfl
      rw [esl]
      have hkx : lk (K x) L = some (V x) := by rw [eL]; exact kv_at hxR hKn
      refine lv_istore (lv' := [(4, .int (nI x)), (0, .ref a), (1, .ref a), (2, .int (nI x)), (3, .int (nI l1.length))]) hx hb d_tb_matches_40 hl (by decide) rfl (fun ls hl => ?_)
      refine lv_iload hx hb d_tb_matches_42 (lv_at hl 0 rfl) ?_
      refine lv_if_eq (tgt := 63) hx hb d_tb_matches_44 (by decide) (fun z9 => absurd z9 (nI_ne0 hxn.1 (by omega))) (fun _ => ?_)
      refine lv_aload_n hx hb d_tb_matches_47 rfl (lv_at hl 2 rfl) ?_
      refine va_get (D := D) (ci := 0) (v := .ref qv) (C := R_tb) (T := F_tb) (N := 10) hx hb hts i_tb hown hK hP 0 rfl rfl 3 (by decide) (hts _ kf_tb_19) (fun _ h9 => h9) rfl d_tb_matches_48 ?_
      refine lv_iload hx hb d_tb_matches_51 (lv_at hl 0 rfl) ?_
      refine wa_ld (k := x) hx hb hK hP 2 0 rfl rfl hxn.2.2 hn d_tb_matches_53 ?_
      refine lv_aload_n hx hb d_tb_matches_54 rfl (lv_at hl 1 rfl) ?_
      refine va_get (D := D) (ci := 0) (v := .ref qv) (C := R_tb) (T := F_tb) (N := 10) hx hb hts i_tb hown hK hP 0 rfl rfl 3 (by decide) (hts _ kf_tb_19) (fun _ h9 => h9) rfl d_tb_matches_55 ?_
      refine lv_iload_n hx hb d_tb_matches_58 rfl (lv_at hl 3 rfl) ?_
      refine wa_ld (k := x) hx hb hK hP 2 0 rfl rfl hxn.2.2 hn d_tb_matches_59 ?_
      refine lv_icmp_eq (tgt := 65) hx hb d_tb_matches_60 (by decide) (fun _ => ?_) (fun z9 => absurd rfl z9)
      refine lv_aload_n hx hb d_tb_matches_65 rfl (lv_at hl 1 rfl) ?_
      refine va_get (D := D) (ci := 0) (v := .ref qf) (C := R_tb) (T := F_tb) (N := 10) hx hb hts i_tb hown hK hP 0 rfl rfl 5 (by decide) (hts _ kf_tb_25) (fun _ h9 => h9) rfl d_tb_matches_66 ?_
      refine lv_iload_n hx hb d_tb_matches_69 rfl (lv_at hl 3 rfl) ?_
      refine wa_ld (k := x) hx hb hK hP 4 0 rfl rfl hxn.2.2 hn d_tb_matches_70 ?_
      refine tp_i (y := nI (hd_ 0 l2)) sN ?_
      refine lv_istore_n (lv' := [(2, .int (nI (hd_ 0 l2))), (4, .int (nI x)), (0, .ref a), (1, .ref a), (3, .int (nI l1.length))]) hx hb d_tb_matches_71 rfl hl (by decide) rfl (fun ls hl => ?_)
      refine lv_iinc (v := nI (l1 ++ [x]).length) (lv' := [(3, .int (nI (l1 ++ [x]).length)), (2, .int (nI (hd_ 0 l2))), (4, .int (nI x)), (0, .ref a), (1, .ref a)]) hx hb d_tb_matches_72 hl (k := 4) rfl (inc_l l1 x) (by decide) rfl (fun ls hl => ?_)
      refine lv_goto (tgt := 22) hx hb d_tb_matches_75 (by decide) ?_
      exact ih (l1 ++ [x]) (by rw [eR]; simp) (fun y hy => by
          rcases List.mem_append.mp hy with h1 | h1
          · exact hall y h1
          · rw [List.mem_singleton.mp h1]; exact hkx) _ _ hP hD hS ls (lv_sub hl [3, 4, 1, 0] rfl)
  exact loop R [] rfl (fun y hy => absurd hy List.not_mem_nil) _ _ hP hD hS ls (lv_sub hl [2, 3, 1, 0] rfl)
