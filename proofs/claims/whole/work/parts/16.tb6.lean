-- Table, outer methods (2): printed by wip/whole/gen/tb6.py
def hvl (x : Int32) (L : List (Int32 × Int32)) : Bool := L.any (fun e => decide (e.2 = x))
def en (e : Int32 × Int32) : Int64 := 31 * e.1.toInt64 + e.2.toInt64
def sm (L : List (Int32 × Int32)) : Int64 := L.foldl (fun t e => t + en e) 0
def rs (b : Int32) (L : List (Int32 × Int32)) : List (Int32 × Int32) := L.map (fun e => (e.1, e.2 + b))
/-- the slot at a place -/
def sa (q : Int32) (R : List Nat) : Nat := if q < 0 then 0 else R.getD q.toNatClampNeg 0
theorem getD_hd (l1 l2 : List Nat) : (l1 ++ l2).getD l1.length 0 = hd_ 0 l2 := by
  rw [List.getD_eq_getElem?_getD, List.getElem?_append_right (Nat.le_refl _), Nat.sub_self]
  cases l2 <;> rfl
theorem sm_snoc {K V : Nat → Int32} {l1 : List Nat} {x : Nat} : sm (kv K V (l1 ++ [x])) = sm (kv K V l1) + (31 * (K x).toInt64 + (V x).toInt64) := by
  unfold sm kv
  rw [List.map_append, List.foldl_append]
  rfl
set_option maxRecDepth 100000 in
set_option maxHeartbeats 4000000 in
/-- holdsValue(x0) -/
theorem c_tb_holdsValue (l : Launch) (D : va_G) (cI cT cP : ClassId) (a : Nat) (mv : Bool) (j : Nat) (L : List (Int32 × Int32)) (u0 : TB) (hL : TL j L u0) (x0 : Int32) : Cg l y_tb_holdsValue b_tb_holdsValue 4 (some .boolean) 0 0 0 D (ty3 cI cT cP) [.ref a, .int x0] (tw cI a mv j u0) (fun (v : Option Value) (u : Unit) => v = some (.int (zI (hvl x0 L)))) (fun u => tw cI a mv j u0) := by
  obtain ⟨qk, qv, qb, qf, qh, qc, K, V, P, N, G, C, fl, mm, R⟩ := u0
  obtain ⟨Fr, bl, hTA, hTN, hTH, hKn, eL⟩ := hL
  have hTA : TA (2 ^ (4 + j)) j mm R Fr := hTA
  have hTN : TN P N R := hTN
  have hTH : TH (2 ^ (4 + j)) K G C fl R Fr bl := hTH
  have hKn : (R.map K).Nodup := hKn
  have eL : L = kv K V R := eL
  have hLl : L.length = R.length := by rw [eL]; exact List.length_map ..
  have hn : 2 ^ (4 + j) < 2 ^ 31 := (ta_len hTA).2.2
  have hRl : R.length < 2 ^ 31 := (ta_len hTA).2.1
  refine cg_enter rfl (Nat.le_of_ble_eq_true rfl) ?_
  intro p e s m below meth c args hx hb hr hlk hml hown hin hts A hA hK hP hD hS ls hl Q hQ
  have hl : lv_has ls 4 [(0, .ref a), (1, .int x0)] := hl
  have hP : va_P D cls (tx cI a (mvI mv) (nI R.length) qk qv qb qf qh qc (2 ^ (4 + j)) K V P N G C fl (nI mm)) s.heap := hP
  have hD : va_D A (tx cI a (mvI mv) (nI R.length) qk qv qb qf qh qc (2 ^ (4 + j)) K V P N G C fl (nI mm)) := hD
  refine lv_aload_n hx hb d_tb_holdsValue_0 rfl (lv_at hl 0 rfl) ?_
  refine va_get (D := D) (ci := 0) (v := .ref qf) (C := R_tb) (T := F_tb) (N := 10) hx hb hts i_tb hown hK hP 0 rfl rfl 5 (by decide) (hts _ kf_tb_25) (fun _ h9 => h9) rfl d_tb_holdsValue_1 ?_
  refine lv_iconst (v := 0) hx hb d_tb_holdsValue_4 (by decide) ?_
  refine wa_ld (k := 0) hx hb hK hP 4 0 rfl rfl (by have := ta_n hTA; omega) hn d_tb_holdsValue_5 ?_
  refine tp_i (y := nI (hd_ 0 R)) (sg_hd0 hTN.1) ?_
  refine lv_istore_n (lv' := [(2, .int (nI (hd_ 0 R))), (0, .ref a), (1, .int x0)]) hx hb d_tb_holdsValue_6 rfl hl (by decide) rfl (fun ls hl => ?_)
  refine lv_iconst (v := 0) hx hb d_tb_holdsValue_7 (by decide) ?_
  refine lv_istore_n (lv' := [(3, .int 0), (2, .int (nI (hd_ 0 R))), (0, .ref a), (1, .int x0)]) hx hb d_tb_holdsValue_8 rfl hl (by decide) rfl (fun ls hl => ?_)
  have loop : ∀ (l2 l1 : List Nat), R = l1 ++ l2 → (∀ y, y ∈ l1 → ¬ V y = x0) → ∀ ls : Array Slot, lv_has ls 4 [(0, .ref a), (1, .int x0), (2, .int (nI (hd_ 0 l2))), (3, .int (nI l1.length))] → W p l e (rmL 0 0 0) s m args below meth c s.heap [] 0 0 Q (F0 m 9 ls []) := by
    intro l2
    induction l2 with
    | nil =>
      intro l1 eR hno ls hl
      have hl1 : l1 = R := by rw [eR, List.append_nil]
      have hf : hvl x0 L = false := by
        rw [eL]
        unfold hvl kv
        rw [List.any_eq_false]
        intro q hq
        obtain ⟨y, hy, rfl⟩ := List.mem_map.mp hq
        simpa using hno y (by rw [hl1]; exact hy)
      refine lv_iload_n hx hb d_tb_holdsValue_9 rfl (lv_at hl 3 rfl) ?_
      refine lv_aload_n hx hb d_tb_holdsValue_10 rfl (lv_at hl 0 rfl) ?_
      refine va_get (D := D) (ci := 0) (v := .int (nI R.length)) (C := R_tb) (T := F_tb) (N := 10) hx hb hts i_tb hown hK hP 0 rfl rfl 1 (by decide) (hts _ kf_tb_52) (fun _ h9 => h9) rfl d_tb_holdsValue_11 ?_
      refine lv_icmp_ge (tgt := 42) hx hb d_tb_holdsValue_14 (by decide) (fun _ => ?_) (fun z9 => absurd (by rw [hl1]; exact nI_le (Nat.le_refl _) hRl) z9)
      refine lv_iconst (v := 0) hx hb d_tb_holdsValue_42 (by decide) ?_
      exact cg_zret (u := ()) hQ hx hb hr hlk hK hP hD hS rfl (by rw [hf]; rfl) d_tb_holdsValue_43
    | cons x l2 ih =>
      intro l1 eR hno ls hl
      have hxR : x ∈ R := by rw [eR]; exact List.mem_append_right _ (List.mem_cons_self ..)
      have hxn := ta_in hTA hxR
      have hlt : l1.length < R.length := by rw [eR, List.length_append, List.length_cons]; omega
      have sN : N x = nI (hd_ 0 l2) := sg_hd0 (sg_app.mp (show sg N (N 0) (l1 ++ x :: l2) 0 by rw [← eR]; exact hTN.1)).2
      have hl : lv_has ls 4 [(0, .ref a), (1, .int x0), (2, .int (nI x)), (3, .int (nI l1.length))] := hl
      refine lv_iload_n hx hb d_tb_holdsValue_9 rfl (lv_at hl 3 rfl) ?_
      refine lv_aload_n hx hb d_tb_holdsValue_10 rfl (lv_at hl 0 rfl) ?_
      refine va_get (D := D) (ci := 0) (v := .int (nI R.length)) (C := R_tb) (T := F_tb) (N := 10) hx hb hts i_tb hown hK hP 0 rfl rfl 1 (by decide) (hts _ kf_tb_52) (fun _ h9 => h9) rfl d_tb_holdsValue_11 ?_
      refine lv_icmp_ge (tgt := 42) hx hb d_tb_holdsValue_14 (by decide) (fun z9 => absurd z9 (nI_ge hlt hRl)) (fun _ => ?_)
      refine lv_aload_n hx hb d_tb_holdsValue_17 rfl (lv_at hl 0 rfl) ?_
      refine va_get (D := D) (ci := 0) (v := .ref qv) (C := R_tb) (T := F_tb) (N := 10) hx hb hts i_tb hown hK hP 0 rfl rfl 3 (by decide) (hts _ kf_tb_19) (fun _ h9 => h9) rfl d_tb_holdsValue_18 ?_
      refine lv_iload_n hx hb d_tb_holdsValue_21 rfl (lv_at hl 2 rfl) ?_
      refine wa_ld (k := x) hx hb hK hP 2 0 rfl rfl hxn.2.2 hn d_tb_holdsValue_22 ?_
      refine lv_iload_n hx hb d_tb_holdsValue_23 rfl (lv_at hl 1 rfl) ?_
      refine lv_icmp_ne (tgt := 29) hx hb d_tb_holdsValue_24 (by decide) (fun c1 => ?_) (fun c1 => ?_)
      · refine lv_aload_n hx hb d_tb_holdsValue_29 rfl (lv_at hl 0 rfl) ?_
        refine va_get (D := D) (ci := 0) (v := .ref qf) (C := R_tb) (T := F_tb) (N := 10) hx hb hts i_tb hown hK hP 0 rfl rfl 5 (by decide) (hts _ kf_tb_25) (fun _ h9 => h9) rfl d_tb_holdsValue_30 ?_
        refine lv_iload_n hx hb d_tb_holdsValue_33 rfl (lv_at hl 2 rfl) ?_
        refine wa_ld (k := x) hx hb hK hP 4 0 rfl rfl hxn.2.2 hn d_tb_holdsValue_34 ?_
        refine tp_i (y := nI (hd_ 0 l2)) sN ?_
        refine lv_istore_n (lv' := [(2, .int (nI (hd_ 0 l2))), (0, .ref a), (1, .int x0), (3, .int (nI l1.length))]) hx hb d_tb_holdsValue_35 rfl hl (by decide) rfl (fun ls hl => ?_)
        refine lv_iinc (v := nI (l1 ++ [x]).length) (lv' := [(3, .int (nI (l1 ++ [x]).length)), (2, .int (nI (hd_ 0 l2))), (0, .ref a), (1, .int x0)]) hx hb d_tb_holdsValue_36 hl (k := 3) rfl (inc_l l1 x) (by decide) rfl (fun ls hl => ?_)
        refine lv_goto (tgt := 9) hx hb d_tb_holdsValue_39 (by decide) ?_
        exact ih (l1 ++ [x]) (by rw [eR]; simp) (fun y hy => by
            rcases List.mem_append.mp hy with h1 | h1
            · exact hno y h1
            · rw [List.mem_singleton.mp h1]; exact c1) ls (lv_sub hl [2, 3, 1, 0] rfl)
      · refine lv_iconst (v := 1) hx hb d_tb_holdsValue_27 (by decide) ?_
        exact cg_zret (u := ()) hQ hx hb hr hlk hK hP hD hS rfl (by rw [show hvl x0 L = true from by rw [eL]; unfold hvl kv; exact List.any_eq_true.mpr ⟨_, List.mem_map.mpr ⟨x, hxR, rfl⟩, decide_eq_true c1⟩]; rfl) d_tb_holdsValue_28
  exact loop R [] rfl (fun y hy => absurd hy List.not_mem_nil) ls (lv_sub hl [2, 3, 1, 0] rfl)
set_option maxRecDepth 100000 in
set_option maxHeartbeats 4000000 in
/-- slotAt(q0) -/
theorem c_tb_slotAt (l : Launch) (D : va_G) (cI cT cP : ClassId) (a : Nat) (mv : Bool) (j : Nat) (L : List (Int32 × Int32)) (u0 : TB) (hL : TL j L u0) (q0 : Int32) : Cg l y_tb_slotAt b_tb_slotAt 4 (some .int) 0 0 0 D (ty3 cI cT cP) [.ref a, .int q0] (tw cI a mv j u0) (fun (v : Option Value) (u : Unit) => v = some (.int (nI (sa q0 u0.2.2.2.2.2.2.2.2.2.2.2.2.2.2)))) (fun u => tw cI a mv j u0) := by
  obtain ⟨qk, qv, qb, qf, qh, qc, K, V, P, N, G, C, fl, mm, R⟩ := u0
  obtain ⟨Fr, bl, hTA, hTN, hTH, hKn, eL⟩ := hL
  have hTA : TA (2 ^ (4 + j)) j mm R Fr := hTA
  have hTN : TN P N R := hTN
  have hTH : TH (2 ^ (4 + j)) K G C fl R Fr bl := hTH
  have hKn : (R.map K).Nodup := hKn
  have eL : L = kv K V R := eL
  have hLl : L.length = R.length := by rw [eL]; exact List.length_map ..
  have hn : 2 ^ (4 + j) < 2 ^ 31 := (ta_len hTA).2.2
  have hRl : R.length < 2 ^ 31 := (ta_len hTA).2.1
  refine cg_enter rfl (Nat.le_of_ble_eq_true rfl) ?_
  intro p e s m below meth c args hx hb hr hlk hml hown hin hts A hA hK hP hD hS ls hl Q hQ
  have hl : lv_has ls 4 [(0, .ref a), (1, .int q0)] := hl
  have hP : va_P D cls (tx cI a (mvI mv) (nI R.length) qk qv qb qf qh qc (2 ^ (4 + j)) K V P N G C fl (nI mm)) s.heap := hP
  have hD : va_D A (tx cI a (mvI mv) (nI R.length) qk qv qb qf qh qc (2 ^ (4 + j)) K V P N G C fl (nI mm)) := hD
  rcases pk_ix q0 hRl with h1 | h1 | ⟨i, h1, h2⟩
  · refine lv_iload_n hx hb d_tb_slotAt_0 rfl (lv_at hl 1 rfl) ?_
    refine lv_if_lt (tgt := 12) hx hb d_tb_slotAt_1 (by decide) (fun _ => ?_) (fun z9 => absurd h1 z9)
    refine lv_iconst (v := 0) hx hb d_tb_slotAt_12 (by decide) ?_
    exact cg_iret (u := ()) hQ hx hb hr hlk hK hP hD hS (by show some (Value.int 0) = some (.int (nI (sa q0 R))); unfold sa; rw [if_pos h1]; rfl) d_tb_slotAt_13
  · have h0 : ¬ q0 < 0 := fun z9 => by
      have h3 := nI_pos' hRl
      rw [Int32.le_iff_toInt_le] at h1 h3
      rw [Int32.lt_iff_toInt_lt] at z9
      omega
    have hs : sa q0 R = 0 := by
      unfold sa
      rw [if_neg h0, List.getD_eq_getElem?_getD, List.getElem?_eq_none]
      · rfl
      · obtain ⟨i, hi, e⟩ := nI_of h0
        rw [e] at h1 ⊢
        rw [nI_clamp hi]
        exact (nI_leI hRl hi).mp h1
    refine lv_iload_n hx hb d_tb_slotAt_0 rfl (lv_at hl 1 rfl) ?_
    refine lv_if_lt (tgt := 12) hx hb d_tb_slotAt_1 (by decide) (fun z9 => absurd z9 h0) (fun _ => ?_)
    refine lv_iload_n hx hb d_tb_slotAt_4 rfl (lv_at hl 1 rfl) ?_
    refine lv_aload_n hx hb d_tb_slotAt_5 rfl (lv_at hl 0 rfl) ?_
    refine va_get (D := D) (ci := 0) (v := .int (nI R.length)) (C := R_tb) (T := F_tb) (N := 10) hx hb hts i_tb hown hK hP 0 rfl rfl 1 (by decide) (hts _ kf_tb_52) (fun _ h9 => h9) rfl d_tb_slotAt_6 ?_
    refine lv_icmp_lt (tgt := 14) hx hb d_tb_slotAt_9 (by decide) (fun z9 => absurd z9 (fun z9 => absurd h1 (by rw [Int32.le_iff_toInt_le]; rw [Int32.lt_iff_toInt_lt] at z9; omega))) (fun _ => ?_)
    refine lv_iconst (v := 0) hx hb d_tb_slotAt_12 (by decide) ?_
    exact cg_iret (u := ()) hQ hx hb hr hlk hK hP hD hS (by show some (Value.int 0) = some (.int (nI (sa q0 R))); rw [hs]; rfl) d_tb_slotAt_13
  · subst h2
    have hs : sa (nI i) R = R.getD i 0 := by
      unfold sa
      rw [if_neg (nI_pos (by omega)), nI_clamp (by omega)]
    refine lv_iload_n hx hb d_tb_slotAt_0 rfl (lv_at hl 1 rfl) ?_
    refine lv_if_lt (tgt := 12) hx hb d_tb_slotAt_1 (by decide) (fun z9 => absurd z9 (nI_pos (by omega))) (fun _ => ?_)
    refine lv_iload_n hx hb d_tb_slotAt_4 rfl (lv_at hl 1 rfl) ?_
    refine lv_aload_n hx hb d_tb_slotAt_5 rfl (lv_at hl 0 rfl) ?_
    refine va_get (D := D) (ci := 0) (v := .int (nI R.length)) (C := R_tb) (T := F_tb) (N := 10) hx hb hts i_tb hown hK hP 0 rfl rfl 1 (by decide) (hts _ kf_tb_52) (fun _ h9 => h9) rfl d_tb_slotAt_6 ?_
    refine lv_icmp_lt (tgt := 14) hx hb d_tb_slotAt_9 (by decide) (fun _ => ?_) (fun z9 => absurd (nI_lt h1 hRl) z9)
    refine lv_aload_n hx hb d_tb_slotAt_14 rfl (lv_at hl 0 rfl) ?_
    refine va_get (D := D) (ci := 0) (v := .ref qf) (C := R_tb) (T := F_tb) (N := 10) hx hb hts i_tb hown hK hP 0 rfl rfl 5 (by decide) (hts _ kf_tb_25) (fun _ h9 => h9) rfl d_tb_slotAt_15 ?_
    refine lv_iconst (v := 0) hx hb d_tb_slotAt_18 (by decide) ?_
    refine wa_ld (k := 0) hx hb hK hP 4 0 rfl rfl (by have := ta_n hTA; omega) hn d_tb_slotAt_19 ?_
    refine tp_i (y := nI (hd_ 0 R)) (sg_hd0 hTN.1) ?_
    refine lv_istore_n (lv' := [(2, .int (nI (hd_ 0 R))), (0, .ref a), (1, .int (nI i))]) hx hb d_tb_slotAt_20 rfl hl (by decide) rfl (fun ls hl => ?_)
    refine lv_iconst (v := 0) hx hb d_tb_slotAt_21 (by decide) ?_
    refine lv_istore_n (lv' := [(3, .int 0), (2, .int (nI (hd_ 0 R))), (0, .ref a), (1, .int (nI i))]) hx hb d_tb_slotAt_22 rfl hl (by decide) rfl (fun ls hl => ?_)
    have loop : ∀ (k : Nat) (l1 l2 : List Nat), R = l1 ++ l2 → l1.length + k = i → ∀ ls : Array Slot, lv_has ls 4 [(0, .ref a), (1, .int (nI i)), (2, .int (nI (hd_ 0 l2))), (3, .int (nI l1.length))] → W p l e (rmL 0 0 0) s m args below meth c s.heap [] 0 0 Q (F0 m 23 ls []) := by
      intro k
      induction k with
      | zero =>
        intro l1 l2 eR hk ls hl
        refine lv_iload_n hx hb d_tb_slotAt_23 rfl (lv_at hl 3 rfl) ?_
        refine lv_iload_n hx hb d_tb_slotAt_24 rfl (lv_at hl 1 rfl) ?_
        refine lv_icmp_ge (tgt := 41) hx hb d_tb_slotAt_25 (by decide) (fun _ => ?_) (fun z9 => absurd (nI_le (by omega) (by omega)) z9)
        refine lv_iload_n hx hb d_tb_slotAt_41 rfl (lv_at hl 2 rfl) ?_
        exact cg_iret (u := ()) hQ hx hb hr hlk hK hP hD hS (by show some (Value.int (nI (hd_ 0 l2))) = some (.int (nI (sa (nI i) R))); rw [hs, ← hk, Nat.add_zero, eR, getD_hd]) d_tb_slotAt_42
      | succ k ih =>
        intro l1 l2 eR hk ls hl
        cases l2 with
        | nil =>
          exact absurd h1 (by rw [eR, List.append_nil]; omega)
        | cons x l2 =>
          have hxR : x ∈ R := by rw [eR]; exact List.mem_append_right _ (List.mem_cons_self ..)
          have hxn := ta_in hTA hxR
          have hlt : l1.length < R.length := by rw [eR, List.length_append, List.length_cons]; omega
          have sN : N x = nI (hd_ 0 l2) := sg_hd0 (sg_app.mp (show sg N (N 0) (l1 ++ x :: l2) 0 by rw [← eR]; exact hTN.1)).2
          have hl : lv_has ls 4 [(0, .ref a), (1, .int (nI i)), (2, .int (nI x)), (3, .int (nI l1.length))] := hl
          refine lv_iload_n hx hb d_tb_slotAt_23 rfl (lv_at hl 3 rfl) ?_
          refine lv_iload_n hx hb d_tb_slotAt_24 rfl (lv_at hl 1 rfl) ?_
          refine lv_icmp_ge (tgt := 41) hx hb d_tb_slotAt_25 (by decide) (fun z9 => absurd z9 (nI_ge (by omega) (by omega))) (fun _ => ?_)
          refine lv_aload_n hx hb d_tb_slotAt_28 rfl (lv_at hl 0 rfl) ?_
          refine va_get (D := D) (ci := 0) (v := .ref qf) (C := R_tb) (T := F_tb) (N := 10) hx hb hts i_tb hown hK hP 0 rfl rfl 5 (by decide) (hts _ kf_tb_25) (fun _ h9 => h9) rfl d_tb_slotAt_29 ?_
          refine lv_iload_n hx hb d_tb_slotAt_32 rfl (lv_at hl 2 rfl) ?_
          refine wa_ld (k := x) hx hb hK hP 4 0 rfl rfl hxn.2.2 hn d_tb_slotAt_33 ?_
          refine tp_i (y := nI (hd_ 0 l2)) sN ?_
          refine lv_istore_n (lv' := [(2, .int (nI (hd_ 0 l2))), (0, .ref a), (1, .int (nI i)), (3, .int (nI l1.length))]) hx hb d_tb_slotAt_34 rfl hl (by decide) rfl (fun ls hl => ?_)
          refine lv_iinc (v := nI (l1 ++ [x]).length) (lv' := [(3, .int (nI (l1 ++ [x]).length)), (2, .int (nI (hd_ 0 l2))), (0, .ref a), (1, .int (nI i))]) hx hb d_tb_slotAt_35 hl (k := 3) rfl (inc_l l1 x) (by decide) rfl (fun ls hl => ?_)
          refine lv_goto (tgt := 23) hx hb d_tb_slotAt_38 (by decide) ?_
          exact ih (l1 ++ [x]) l2 (by rw [eR]; simp) (by rw [List.length_append, List.length_cons, List.length_nil]; omega) ls (lv_sub hl [2, 3, 1, 0] rfl)
    exact loop i [] R rfl (by simp) ls (lv_sub hl [2, 3, 1, 0] rfl)
set_option maxRecDepth 100000 in
set_option maxHeartbeats 4000000 in
/-- total() -/
theorem c_tb_total (l : Launch) (D : va_G) (cI cT cP : ClassId) (a : Nat) (mv : Bool) (j : Nat) (L : List (Int32 × Int32)) (u0 : TB) (hL : TL j L u0) : Cg l y_tb_total b_tb_total 5 (some .long) 0 0 0 D (ty3 cI cT cP) [.ref a] (tw cI a mv j u0) (fun (v : Option Value) (u : Unit) => v = some (.long (sm L))) (fun u => tw cI a mv j u0) := by
  obtain ⟨qk, qv, qb, qf, qh, qc, K, V, P, N, G, C, fl, mm, R⟩ := u0
  obtain ⟨Fr, bl, hTA, hTN, hTH, hKn, eL⟩ := hL
  have hTA : TA (2 ^ (4 + j)) j mm R Fr := hTA
  have hTN : TN P N R := hTN
  have hTH : TH (2 ^ (4 + j)) K G C fl R Fr bl := hTH
  have hKn : (R.map K).Nodup := hKn
  have eL : L = kv K V R := eL
  have hLl : L.length = R.length := by rw [eL]; exact List.length_map ..
  have hn : 2 ^ (4 + j) < 2 ^ 31 := (ta_len hTA).2.2
  have hRl : R.length < 2 ^ 31 := (ta_len hTA).2.1
  refine cg_enter rfl (Nat.le_of_ble_eq_true rfl) ?_
  intro p e s m below meth c args hx hb hr hlk hml hown hin hts A hA hK hP hD hS ls hl Q hQ
  have hl : lv_has ls 5 [(0, .ref a)] := hl
  have hP : va_P D cls (tx cI a (mvI mv) (nI R.length) qk qv qb qf qh qc (2 ^ (4 + j)) K V P N G C fl (nI mm)) s.heap := hP
  have hD : va_D A (tx cI a (mvI mv) (nI R.length) qk qv qb qf qh qc (2 ^ (4 + j)) K V P N G C fl (nI mm)) := hD
  refine lv_lconst (v := 0) hx hb d_tb_total_0 (by decide) ?_
  refine lv_lstore_n (lv' := [(1, .long 0), (0, .ref a)]) hx hb d_tb_total_1 rfl hl (by decide) rfl (fun ls hl => ?_)
  refine lv_aload_n hx hb d_tb_total_2 rfl (lv_at hl 1 rfl) ?_
  refine va_get (D := D) (ci := 0) (v := .ref qf) (C := R_tb) (T := F_tb) (N := 10) hx hb hts i_tb hown hK hP 0 rfl rfl 5 (by decide) (hts _ kf_tb_25) (fun _ h9 => h9) rfl d_tb_total_3 ?_
  refine lv_iconst (v := 0) hx hb d_tb_total_6 (by decide) ?_
  refine wa_ld (k := 0) hx hb hK hP 4 0 rfl rfl (by have := ta_n hTA; omega) hn d_tb_total_7 ?_
  refine tp_i (y := nI (hd_ 0 R)) (sg_hd0 hTN.1) ?_
  refine lv_istore_n (lv' := [(3, .int (nI (hd_ 0 R))), (1, .long 0), (0, .ref a)]) hx hb d_tb_total_8 rfl hl (by decide) rfl (fun ls hl => ?_)
  refine lv_iconst (v := 0) hx hb d_tb_total_9 (by decide) ?_
  refine lv_istore (lv' := [(4, .int 0), (3, .int (nI (hd_ 0 R))), (1, .long 0), (0, .ref a)]) hx hb d_tb_total_10 hl (by decide) rfl (fun ls hl => ?_)
  have loop : ∀ (l2 l1 : List Nat), R = l1 ++ l2 → ∀ ls : Array Slot, lv_has ls 5 [(0, .ref a), (1, .long (sm (kv K V l1))), (3, .int (nI (hd_ 0 l2))), (4, .int (nI l1.length))] → W p l e (rmL 0 0 0) s m args below meth c s.heap [] 0 0 Q (F0 m 12 ls []) := by
    intro l2
    induction l2 with
    | nil =>
      intro l1 eR ls hl
      have hl1 : l1 = R := by rw [eR, List.append_nil]
      refine lv_iload hx hb d_tb_total_12 (lv_at hl 3 rfl) ?_
      refine lv_aload_n hx hb d_tb_total_14 rfl (lv_at hl 0 rfl) ?_
      refine va_get (D := D) (ci := 0) (v := .int (nI R.length)) (C := R_tb) (T := F_tb) (N := 10) hx hb hts i_tb hown hK hP 0 rfl rfl 1 (by decide) (hts _ kf_tb_52) (fun _ h9 => h9) rfl d_tb_total_15 ?_
      refine lv_icmp_ge (tgt := 56) hx hb d_tb_total_18 (by decide) (fun _ => ?_) (fun z9 => absurd (by rw [hl1]; exact nI_le (Nat.le_refl _) hRl) z9)
      refine lv_lload_n hx hb d_tb_total_56 rfl (lv_at hl 1 rfl) ?_
      exact cg_lret (u := ()) hQ hx hb hr hlk hK hP hD hS (by rw [hl1, eL]) d_tb_total_57
    | cons x l2 ih =>
      intro l1 eR ls hl
      have hxR : x ∈ R := by rw [eR]; exact List.mem_append_right _ (List.mem_cons_self ..)
      have hxn := ta_in hTA hxR
      have hlt : l1.length < R.length := by rw [eR, List.length_append, List.length_cons]; omega
      have sN : N x = nI (hd_ 0 l2) := sg_hd0 (sg_app.mp (show sg N (N 0) (l1 ++ x :: l2) 0 by rw [← eR]; exact hTN.1)).2
      have hl : lv_has ls 5 [(0, .ref a), (1, .long (sm (kv K V l1))), (3, .int (nI x)), (4, .int (nI l1.length))] := hl
      refine lv_iload hx hb d_tb_total_12 (lv_at hl 3 rfl) ?_
      refine lv_aload_n hx hb d_tb_total_14 rfl (lv_at hl 0 rfl) ?_
      refine va_get (D := D) (ci := 0) (v := .int (nI R.length)) (C := R_tb) (T := F_tb) (N := 10) hx hb hts i_tb hown hK hP 0 rfl rfl 1 (by decide) (hts _ kf_tb_52) (fun _ h9 => h9) rfl d_tb_total_15 ?_
      refine lv_icmp_ge (tgt := 56) hx hb d_tb_total_18 (by decide) (fun z9 => absurd z9 (nI_ge hlt hRl)) (fun _ => ?_)
      refine lv_lload_n hx hb d_tb_total_21 rfl (lv_at hl 1 rfl) ?_
      refine lv_ldc2 hx hb hown (hts _ kk_tb_85) d_tb_total_22 ?_
      refine lv_aload_n hx hb d_tb_total_25 rfl (lv_at hl 0 rfl) ?_
      refine va_get (D := D) (ci := 0) (v := .ref qk) (C := R_tb) (T := F_tb) (N := 10) hx hb hts i_tb hown hK hP 0 rfl rfl 2 (by decide) (hts _ kf_tb_15) (fun _ h9 => h9) rfl d_tb_total_26 ?_
      refine lv_iload_n hx hb d_tb_total_29 rfl (lv_at hl 2 rfl) ?_
      refine wa_ld (k := x) hx hb hK hP 1 0 rfl rfl hxn.2.2 hn d_tb_total_30 ?_
      refine lv_i2l (v := (K x).toInt64) hx hb d_tb_total_31 rfl ?_
      refine lv_lmul hx hb d_tb_total_32 ?_
      refine lv_aload_n hx hb d_tb_total_33 rfl (lv_at hl 0 rfl) ?_
      refine va_get (D := D) (ci := 0) (v := .ref qv) (C := R_tb) (T := F_tb) (N := 10) hx hb hts i_tb hown hK hP 0 rfl rfl 3 (by decide) (hts _ kf_tb_19) (fun _ h9 => h9) rfl d_tb_total_34 ?_
      refine lv_iload_n hx hb d_tb_total_37 rfl (lv_at hl 2 rfl) ?_
      refine wa_ld (k := x) hx hb hK hP 2 0 rfl rfl hxn.2.2 hn d_tb_total_38 ?_
      refine lv_i2l (v := (V x).toInt64) hx hb d_tb_total_39 rfl ?_
      refine lv_ladd hx hb d_tb_total_40 ?_
      refine lv_ladd hx hb d_tb_total_41 ?_
      refine tp_l (y := sm (kv K V (l1 ++ [x]))) sm_snoc.symm ?_
      refine lv_lstore_n (lv' := [(1, .long (sm (kv K V (l1 ++ [x])))), (0, .ref a), (3, .int (nI x)), (4, .int (nI l1.length))]) hx hb d_tb_total_42 rfl hl (by decide) rfl (fun ls hl => ?_)
      refine lv_aload_n hx hb d_tb_total_43 rfl (lv_at hl 1 rfl) ?_
      refine va_get (D := D) (ci := 0) (v := .ref qf) (C := R_tb) (T := F_tb) (N := 10) hx hb hts i_tb hown hK hP 0 rfl rfl 5 (by decide) (hts _ kf_tb_25) (fun _ h9 => h9) rfl d_tb_total_44 ?_
      refine lv_iload_n hx hb d_tb_total_47 rfl (lv_at hl 2 rfl) ?_
      refine wa_ld (k := x) hx hb hK hP 4 0 rfl rfl hxn.2.2 hn d_tb_total_48 ?_
      refine tp_i (y := nI (hd_ 0 l2)) sN ?_
      refine lv_istore_n (lv' := [(3, .int (nI (hd_ 0 l2))), (1, .long (sm (kv K V (l1 ++ [x])))), (0, .ref a), (4, .int (nI l1.length))]) hx hb d_tb_total_49 rfl hl (by decide) rfl (fun ls hl => ?_)
      refine lv_iinc (v := nI (l1 ++ [x]).length) (lv' := [(4, .int (nI (l1 ++ [x]).length)), (3, .int (nI (hd_ 0 l2))), (1, .long (sm (kv K V (l1 ++ [x])))), (0, .ref a)]) hx hb d_tb_total_50 hl (k := 3) rfl (inc_l l1 x) (by decide) rfl (fun ls hl => ?_)
      refine lv_goto (tgt := 12) hx hb d_tb_total_53 (by decide) ?_
      exact ih (l1 ++ [x]) (by rw [eR]; simp) ls (lv_sub hl [3, 2, 1, 0] rfl)
  exact loop R [] rfl ls (lv_sub hl [3, 2, 1, 0] rfl)
set_option maxRecDepth 100000 in
set_option maxHeartbeats 4000000 in
/-- increase(b0) -/
theorem c_tb_increase (l : Launch) (D : va_G) (cI cT cP : ClassId) (a : Nat) (mv : Bool) (j : Nat) (L : List (Int32 × Int32)) (u0 : TB) (hL : TL j L u0) (b0 : Int32) : Cg l y_tb_increase b_tb_increase 4 (some .int) 0 0 0 D (ty3 cI cT cP) [.ref a, .int b0] (tw cI a mv j u0) (fun (v : Option Value) (u : TB) => v = some (.int (nI L.length)) ∧ TL j (rs b0 L) u) (fun u => tw cI a mv j u) := by
  obtain ⟨qk, qv, qb, qf, qh, qc, K, V, P, N, G, C, fl, mm, R⟩ := u0
  obtain ⟨Fr, bl, hTA, hTN, hTH, hKn, eL⟩ := hL
  have hTA : TA (2 ^ (4 + j)) j mm R Fr := hTA
  have hTN : TN P N R := hTN
  have hTH : TH (2 ^ (4 + j)) K G C fl R Fr bl := hTH
  have hKn : (R.map K).Nodup := hKn
  have eL : L = kv K V R := eL
  have hLl : L.length = R.length := by rw [eL]; exact List.length_map ..
  have hn : 2 ^ (4 + j) < 2 ^ 31 := (ta_len hTA).2.2
  have hRl : R.length < 2 ^ 31 := (ta_len hTA).2.1
  refine cg_enter rfl (Nat.le_of_ble_eq_true rfl) ?_
  intro p e s m below meth c args hx hb hr hlk hml hown hin hts A hA hK hP hD hS ls hl Q hQ
  have hl : lv_has ls 4 [(0, .ref a), (1, .int b0)] := hl
  have hP : va_P D cls (tx cI a (mvI mv) (nI R.length) qk qv qb qf qh qc (2 ^ (4 + j)) K V P N G C fl (nI mm)) s.heap := hP
  have hD : va_D A (tx cI a (mvI mv) (nI R.length) qk qv qb qf qh qc (2 ^ (4 + j)) K V P N G C fl (nI mm)) := hD
  refine lv_aload_n hx hb d_tb_increase_0 rfl (lv_at hl 0 rfl) ?_
  refine va_get (D := D) (ci := 0) (v := .ref qf) (C := R_tb) (T := F_tb) (N := 10) hx hb hts i_tb hown hK hP 0 rfl rfl 5 (by decide) (hts _ kf_tb_25) (fun _ h9 => h9) rfl d_tb_increase_1 ?_
  refine lv_iconst (v := 0) hx hb d_tb_increase_4 (by decide) ?_
  refine wa_ld (k := 0) hx hb hK hP 4 0 rfl rfl (by have := ta_n hTA; omega) hn d_tb_increase_5 ?_
  refine tp_i (y := nI (hd_ 0 R)) (sg_hd0 hTN.1) ?_
  refine lv_istore_n (lv' := [(2, .int (nI (hd_ 0 R))), (0, .ref a), (1, .int b0)]) hx hb d_tb_increase_6 rfl hl (by decide) rfl (fun ls hl => ?_)
  refine lv_iconst (v := 0) hx hb d_tb_increase_7 (by decide) ?_
  refine lv_istore_n (lv' := [(3, .int 0), (2, .int (nI (hd_ 0 R))), (0, .ref a), (1, .int b0)]) hx hb d_tb_increase_8 rfl hl (by decide) rfl (fun ls hl => ?_)
  have loop : ∀ (l2 l1 : List Nat) (V2 : Nat → Int32), R = l1 ++ l2 → (∀ y, y ∈ l1 → V2 y = V y + b0) → (∀ y, y ∈ l2 → V2 y = V y) → ∀ (H : Heap) (locs : List Loc), va_P D cls (tx cI a (mvI mv) (nI R.length) qk qv qb qf qh qc (2 ^ (4 + j)) K V2 P N G C fl (nI mm)) H → va_D A (tx cI a (mvI mv) (nI R.length) qk qv qb qf qh qc (2 ^ (4 + j)) K V2 P N G C fl (nI mm)) → va_S A s.heap H locs → ∀ ls : Array Slot, lv_has ls 4 [(0, .ref a), (1, .int b0), (2, .int (nI (hd_ 0 l2))), (3, .int (nI l1.length))] → W p l e (rmL 0 0 0) s m args below meth c H locs 0 0 Q (F0 m 9 ls []) := by
    intro l2
    induction l2 with
    | nil =>
      intro l1 V2 eR h1 h2 H locs hP hD hS ls hl
      have hl1 : l1 = R := by rw [eR, List.append_nil]
      refine lv_iload_n hx hb d_tb_increase_9 rfl (lv_at hl 3 rfl) ?_
      refine lv_aload_n hx hb d_tb_increase_10 rfl (lv_at hl 0 rfl) ?_
      refine va_get (D := D) (ci := 0) (v := .int (nI R.length)) (C := R_tb) (T := F_tb) (N := 10) hx hb hts i_tb hown hK hP 0 rfl rfl 1 (by decide) (hts _ kf_tb_52) (fun _ h9 => h9) rfl d_tb_increase_11 ?_
      refine lv_icmp_ge (tgt := 40) hx hb d_tb_increase_14 (by decide) (fun _ => ?_) (fun z9 => absurd (by rw [hl1]; exact nI_le (Nat.le_refl _) hRl) z9)
      refine lv_aload_n hx hb d_tb_increase_40 rfl (lv_at hl 0 rfl) ?_
      refine va_get (D := D) (ci := 0) (v := .int (nI R.length)) (C := R_tb) (T := F_tb) (N := 10) hx hb hts i_tb hown hK hP 0 rfl rfl 1 (by decide) (hts _ kf_tb_52) (fun _ h9 => h9) rfl d_tb_increase_41 ?_
      exact cg_iret (u := (qk, qv, qb, qf, qh, qc, K, V2, P, N, G, C, fl, mm, R)) hQ hx hb hr hlk hK hP hD hS (⟨by rw [hLl], Fr, bl, hTA, hTN, hTH, hKn, by
        rw [eL]
        unfold rs kv
        rw [List.map_map]
        exact List.map_congr_left (fun y hy => by
          show (K y, V y + b0) = (K y, V2 y)
          rw [h1 y (by rw [hl1]; exact hy)])⟩) d_tb_increase_44
    | cons x l2 ih =>
      intro l1 V2 eR h1 h2 H locs hP hD hS ls hl
      have hxR : x ∈ R := by rw [eR]; exact List.mem_append_right _ (List.mem_cons_self ..)
      have hxn := ta_in hTA hxR
      have hlt : l1.length < R.length := by rw [eR, List.length_append, List.length_cons]; omega
      have sN : N x = nI (hd_ 0 l2) := sg_hd0 (sg_app.mp (show sg N (N 0) (l1 ++ x :: l2) 0 by rw [← eR]; exact hTN.1)).2
      have hl : lv_has ls 4 [(0, .ref a), (1, .int b0), (2, .int (nI x)), (3, .int (nI l1.length))] := hl
      have nd1 : (l1 ++ x :: l2).Nodup := by rw [← eR]; exact ta_nd hTA
      have nx1 : x ∉ l1 := fun z9 => (List.nodup_append.mp nd1).2.2 x z9 x (List.mem_cons_self ..) rfl
      have nx2 : x ∉ l2 := (List.nodup_cons.mp (List.nodup_append.mp nd1).2.1).1
      refine lv_iload_n hx hb d_tb_increase_9 rfl (lv_at hl 3 rfl) ?_
      refine lv_aload_n hx hb d_tb_increase_10 rfl (lv_at hl 0 rfl) ?_
      refine va_get (D := D) (ci := 0) (v := .int (nI R.length)) (C := R_tb) (T := F_tb) (N := 10) hx hb hts i_tb hown hK hP 0 rfl rfl 1 (by decide) (hts _ kf_tb_52) (fun _ h9 => h9) rfl d_tb_increase_11 ?_
      refine lv_icmp_ge (tgt := 40) hx hb d_tb_increase_14 (by decide) (fun z9 => absurd z9 (nI_ge hlt hRl)) (fun _ => ?_)
      refine lv_aload_n hx hb d_tb_increase_17 rfl (lv_at hl 0 rfl) ?_
      refine va_get (D := D) (ci := 0) (v := .ref qv) (C := R_tb) (T := F_tb) (N := 10) hx hb hts i_tb hown hK hP 0 rfl rfl 3 (by decide) (hts _ kf_tb_19) (fun _ h9 => h9) rfl d_tb_increase_18 ?_
      refine lv_iload_n hx hb d_tb_increase_21 rfl (lv_at hl 2 rfl) ?_
      refine lv_dup2_11 hx hb d_tb_increase_22 rfl rfl ?_
      refine wa_ld (k := x) hx hb hK hP 2 0 rfl rfl hxn.2.2 hn d_tb_increase_23 ?_
      refine lv_iload_n hx hb d_tb_increase_24 rfl (lv_at hl 1 rfl) ?_
      refine lv_iadd hx hb d_tb_increase_25 ?_
      refine wa_st (k := x) (x := ((V2 x) + b0)) hx hb hK hP hD hS 2 0 rfl rfl hxn.2.2 hn d_tb_increase_26 (fun H locs hP hD hS => ?_)
      have hP : va_P D cls (tx cI a (mvI mv) (nI R.length) qk qv qb qf qh qc (2 ^ (4 + j)) K (upd V2 x ((V2 x) + b0)) P N G C fl (nI mm)) H := hP
      have hD : va_D A (tx cI a (mvI mv) (nI R.length) qk qv qb qf qh qc (2 ^ (4 + j)) K (upd V2 x ((V2 x) + b0)) P N G C fl (nI mm)) := hD
      refine lv_aload_n hx hb d_tb_increase_27 rfl (lv_at hl 0 rfl) ?_
      refine va_get (D := D) (ci := 0) (v := .ref qf) (C := R_tb) (T := F_tb) (N := 10) hx hb hts i_tb hown hK hP 0 rfl rfl 5 (by decide) (hts _ kf_tb_25) (fun _ h9 => h9) rfl d_tb_increase_28 ?_
      refine lv_iload_n hx hb d_tb_increase_31 rfl (lv_at hl 2 rfl) ?_
      refine wa_ld (k := x) hx hb hK hP 4 0 rfl rfl hxn.2.2 hn d_tb_increase_32 ?_
      refine tp_i (y := nI (hd_ 0 l2)) sN ?_
      refine lv_istore_n (lv' := [(2, .int (nI (hd_ 0 l2))), (0, .ref a), (1, .int b0), (3, .int (nI l1.length))]) hx hb d_tb_increase_33 rfl hl (by decide) rfl (fun ls hl => ?_)
      refine lv_iinc (v := nI (l1 ++ [x]).length) (lv' := [(3, .int (nI (l1 ++ [x]).length)), (2, .int (nI (hd_ 0 l2))), (0, .ref a), (1, .int b0)]) hx hb d_tb_increase_34 hl (k := 3) rfl (inc_l l1 x) (by decide) rfl (fun ls hl => ?_)
      refine lv_goto (tgt := 9) hx hb d_tb_increase_37 (by decide) ?_
      exact ih (l1 ++ [x]) _ (by rw [eR]; simp) (fun y hy => by
          rcases List.mem_append.mp hy with h3 | h3
          · rw [pk_un (fun z9 => nx1 (by rw [← z9]; exact h3))]; exact h1 y h3
          · rw [List.mem_singleton.mp h3, pk_us, h2 x (List.mem_cons_self ..)]) (fun y hy => by rw [pk_un (fun z9 => nx2 (by rw [← z9]; exact hy))]; exact h2 y (List.mem_cons_of_mem _ hy)) _ _ hP hD hS ls (lv_sub hl [2, 3, 1, 0] rfl)
  exact loop R [] V rfl (fun y hy => absurd hy List.not_mem_nil) (fun y hy => rfl) _ _ hP hD hS ls (lv_sub hl [2, 3, 1, 0] rfl)
