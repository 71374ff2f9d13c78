-- The JDK's own methods: printed by wip/whole/gen/jk.py
/-- the first n of f, zeros behind them -/
abbrev cpy (n : Nat) (f : Nat → Int32) : Nat → Int32 := va_cpy f (fun _ => 0) 0 0 n
set_option maxRecDepth 100000 in
set_option maxHeartbeats 4000000 in
/-- Arrays.copyOf of a longer length -/
theorem c_ja_copyOf (l : Launch) (D : va_G) (cI cT cP : ClassId) (q n n2 : Nat) (f : Nat → Int32) (h1 : n < n2) (h2 : n2 ≤ 4096) : Cg l y_ja_copyOf b_ja_copyOf 3 (some (.array .int)) 1 1 n2 D (ty3 cI cT cP) [.ref q, .int (nI n2)] ([(q, .inl (cI, n, .inl f))]) (fun (v : Option Value) (u : Nat) => v = some (.ref u)) (fun u => [(q, .inl (cI, n, .inl f)), (u, .inl (cI, n2, .inl (cpy n f)))]) := by
  refine cg_enter rfl (Nat.le_of_ble_eq_true rfl) ?_
  intro p e s m below meth c args hx hb hr hlk hml hown hin hts A hA hK hP hD hS ls hl Q hQ
  have hl : lv_has ls 3 [(0, .ref q), (1, .int (nI n2))] := hl
  have hP : va_P D cls ([(q, .inl (cI, n, .inl f))]) s.heap := hP
  have hD : va_D A ([(q, .inl (cI, n, .inl f))]) := hD
  refine lv_iload_n hx hb d_ja_copyOf_0 rfl (lv_at hl 1 rfl) ?_
  refine lv_aload_n hx hb d_ja_copyOf_1 rfl (lv_at hl 0 rfl) ?_
  refine va_alen (v := nI n) hx hb hK hP 0 0 rfl rfl rfl d_ja_copyOf_2 ?_
  refine lv_icmp_ne (tgt := 14) hx hb d_ja_copyOf_3 (by decide) (fun _ => ?_) (fun z9 => absurd z9 (fun z9 => absurd ((nI_eq (by omega) (by omega)).mp z9) (by omega)))
  refine lv_iload_n hx hb d_ja_copyOf_14 rfl (lv_at hl 1 rfl) ?_
  refine wa_new (k := n2) hx hb hts hK hP hD hS hA (by omega) (by show _ ≤ 1; omega) (by show _ ≤ n2; omega) d_ja_copyOf_15 (fun q2 H hP hD hS => ?_)
  have hP : va_P D cls ([(q, .inl (cI, n, .inl f)), (q2, .inl (cI, n2, .inl (fun _ => 0)))]) H := hP
  have hD : va_D A ([(q, .inl (cI, n, .inl f)), (q2, .inl (cI, n2, .inl (fun _ => 0)))]) := hD
  refine lv_astore_n (lv' := [(2, .ref q2), (0, .ref q), (1, .int (nI n2))]) hx hb d_ja_copyOf_17 rfl hl (by decide) rfl (fun ls hl => ?_)
  refine lv_aload_n hx hb d_ja_copyOf_18 rfl (lv_at hl 1 rfl) ?_
  refine lv_iconst (v := 0) hx hb d_ja_copyOf_19 (by decide) ?_
  refine lv_aload_n hx hb d_ja_copyOf_20 rfl (lv_at hl 0 rfl) ?_
  refine lv_iconst (v := 0) hx hb d_ja_copyOf_21 (by decide) ?_
  refine lv_aload_n hx hb d_ja_copyOf_22 rfl (lv_at hl 1 rfl) ?_
  refine va_alen (v := nI n) hx hb hK hP 0 0 rfl rfl rfl d_ja_copyOf_23 ?_
  refine lv_iload_n hx hb d_ja_copyOf_24 rfl (lv_at hl 2 rfl) ?_
  refine wa_min (z := nI n) hx hb hml hl.1 hown hts km_ja_304 (Nat.le_of_ble_eq_true rfl) (Nat.le_of_ble_eq_true rfl) (by show _ ≤ 1; omega) (by show _ ≤ n2; omega) (if_neg (nI_nlt (by omega) (by omega))) d_ja_copyOf_25 ?_
  refine wa_cpy (n := n) (dp := 0) (sp := 0) hx hb hml hl.1 hown hts km_ja_150 hK hP hD hS 0 1 0 rfl rfl rfl (by omega) (by omega) (by omega) (by omega) (Nat.le_of_ble_eq_true rfl) (Nat.le_of_ble_eq_true rfl) d_ja_copyOf_28 (fun H locs hP hD hS => ?_)
  have hP : va_P D cls ([(q, .inl (cI, n, .inl f)), (q2, .inl (cI, n2, .inl (va_cpy f (fun _ => 0) 0 0 n)))]) H := hP
  have hD : va_D A ([(q, .inl (cI, n, .inl f)), (q2, .inl (cI, n2, .inl (va_cpy f (fun _ => 0) 0 0 n)))]) := hD
  refine lv_aload_n hx hb d_ja_copyOf_31 rfl (lv_at hl 0 rfl) ?_
  refine W.widen (k := 1) (n := n2) (by omega) (by omega) ?_
  exact cg_aret (u := q2) hQ hx hb hr (Or.inr ⟨_, rfl⟩) (Or.inr ⟨_, rfl⟩) hlk hK hP hD hS rfl d_ja_copyOf_32
set_option maxRecDepth 100000 in
set_option maxHeartbeats 4000000 in
/-- Arrays.fill -/
theorem c_ja_fill (l : Launch) (D : va_G) (cI cT cP : ClassId) (q n : Nat) (f : Nat → Int32) (x : Int32) (hn : n < 2 ^ 31) : Cg l y_ja_fill b_ja_fill 4 (none) 0 0 0 D (ty3 cI cT cP) [.ref q, .int x] ([(q, .inl (cI, n, .inl f))]) (fun (v : Option Value) (u : Nat → Int32) => v = none ∧ ∀ i, i < n → u i = x) (fun u => [(q, .inl (cI, n, .inl u))]) := by
  refine cg_enter rfl (Nat.le_of_ble_eq_true rfl) ?_
  intro p e s m below meth c args hx hb hr hlk hml hown hin hts A hA hK hP hD hS ls hl Q hQ
  have hl : lv_has ls 4 [(0, .ref q), (1, .int x)] := hl
  have hP : va_P D cls ([(q, .inl (cI, n, .inl f))]) s.heap := hP
  have hD : va_D A ([(q, .inl (cI, n, .inl f))]) := hD
  refine lv_iconst (v := 0) hx hb d_ja_fill_0 (by decide) ?_
  refine lv_istore_n (lv' := [(2, .int 0), (0, .ref q), (1, .int x)]) hx hb d_ja_fill_1 rfl hl (by decide) rfl (fun ls hl => ?_)
  refine lv_aload_n hx hb d_ja_fill_2 rfl (lv_at hl 1 rfl) ?_
  refine va_alen (v := nI n) hx hb hK hP 0 0 rfl rfl rfl d_ja_fill_3 ?_
  refine lv_istore_n (lv' := [(3, .int (nI n)), (2, .int 0), (0, .ref q), (1, .int x)]) hx hb d_ja_fill_4 rfl hl (by decide) rfl (fun ls hl => ?_)
  have loop : ∀ (k i : Nat) (f : Nat → Int32), i + k = n → (∀ y, y < i → f y = x) → ∀ (H : Heap) (locs : List Loc), va_P D cls ([(q, .inl (cI, n, .inl f))]) H → va_D A ([(q, .inl (cI, n, .inl f))]) → va_S A s.heap H locs → ∀ ls : Array Slot, lv_has ls 4 [(0, .ref q), (1, .int x), (2, .int (nI i)), (3, .int (nI n))] → W p l e (rmL 0 0 0) s m args below meth c H locs 0 0 Q (F0 m 5 ls []) := by
    intro k
    induction k with
    | zero =>
      intro i f hi hf H locs hP hD hS ls hl
      refine lv_iload_n hx hb d_ja_fill_5 rfl (lv_at hl 2 rfl) ?_
      refine lv_iload_n hx hb d_ja_fill_6 rfl (lv_at hl 3 rfl) ?_
      refine lv_icmp_ge (tgt := 20) hx hb d_ja_fill_7 (by decide) (fun _ => ?_) (fun z9 => absurd (nI_le (by omega) (by omega)) z9)
      exact cg_vret (u := f) hQ hx hb hr hlk hK hP hD hS (⟨rfl, fun y hy => hf y (by omega)⟩) d_ja_fill_20
    | succ k ih =>
      intro i f hi hf H locs hP hD hS ls hl
      refine lv_iload_n hx hb d_ja_fill_5 rfl (lv_at hl 2 rfl) ?_
      refine lv_iload_n hx hb d_ja_fill_6 rfl (lv_at hl 3 rfl) ?_
      refine lv_icmp_ge (tgt := 20) hx hb d_ja_fill_7 (by decide) (fun z9 => absurd z9 (nI_ge (by omega) hn)) (fun _ => ?_)
      refine lv_aload_n hx hb d_ja_fill_10 rfl (lv_at hl 0 rfl) ?_
      refine lv_iload_n hx hb d_ja_fill_11 rfl (lv_at hl 2 rfl) ?_
      refine lv_iload_n hx hb d_ja_fill_12 rfl (lv_at hl 1 rfl) ?_
      refine wa_st (k := i) (x := x) hx hb hK hP hD hS 0 0 rfl rfl (by omega) hn d_ja_fill_13 (fun H locs hP hD hS => ?_)
      have hP : va_P D cls ([(q, .inl (cI, n, .inl (upd f i x)))]) H := hP
      have hD : va_D A ([(q, .inl (cI, n, .inl (upd f i x)))]) := hD
      refine lv_iinc (v := nI (i + 1)) (lv' := [(2, .int (nI (i + 1))), (0, .ref q), (1, .int x), (3, .int (nI n))]) hx hb d_ja_fill_14 hl (k := 2) rfl (nI_1 i) (by decide) rfl (fun ls hl => ?_)
      refine lv_goto (tgt := 5) hx hb d_ja_fill_17 (by decide) ?_
      exact ih (i + 1) (upd f i x) (by omega) (fun y hy => by
        by_cases h9 : y = i
        · rw [h9]; exact pk_us
        · rw [pk_un h9]; exact hf y (by omega)) _ _ hP hD hS ls (lv_sub hl [1, 2, 0, 3] rfl)
  exact loop n 0 f (by omega) (fun y hy => absurd hy (Nat.not_lt_zero _)) _ _ hP hD hS ls (lv_sub hl [2, 3, 1, 0] rfl)
/-- Math.floorMod -/
def fm (x y : Int32) : Int32 := if 0 ≤ x ^^^ y then x - x / y * y else if x - x / y * y = 0 then x - x / y * y else x - x / y * y + y
set_option maxRecDepth 100000 in
set_option maxHeartbeats 4000000 in
/-- Math.floorMod -/
theorem c_jm_floorMod (l : Launch) (D : va_G) (cI cT cP : ClassId) (x y : Int32) (hy : ¬ y = 0) : Cg l y_jm_floorMod b_jm_floorMod 3 (some .int) 0 0 0 D (ty3 cI cT cP) [.int x, .int y] ([]) (fun (v : Option Value) (u : Unit) => v = some (.int (fm x y))) (fun u => []) := by
  refine cg_enterF (by decide +kernel) (Nat.le_of_ble_eq_true rfl) ?_
  intro p e s m below meth c args hx hb hr hlk hml hown hin hts A hA hK hP hD hS ls hl Q hQ
  have hl : lv_has ls 3 [(0, .int x), (1, .int y)] := hl
  have hP : va_P D cls ([]) s.heap := hP
  have hD : va_D A ([]) := hD
  refine lv_iload_n hx hb d_jm_floorMod_0 rfl (lv_at hl 0 rfl) ?_
  refine lv_iload_n hx hb d_jm_floorMod_1 rfl (lv_at hl 1 rfl) ?_
  refine lv_irem hx hb d_jm_floorMod_2 hy ?_
  refine lv_istore_n (lv' := [(2, .int (x - x / y * y)), (0, .int x), (1, .int y)]) hx hb d_jm_floorMod_3 rfl hl (by decide) rfl (fun ls hl => ?_)
  refine lv_iload_n hx hb d_jm_floorMod_4 rfl (lv_at hl 1 rfl) ?_
  refine lv_iload_n hx hb d_jm_floorMod_5 rfl (lv_at hl 2 rfl) ?_
  refine lv_ixor hx hb d_jm_floorMod_6 ?_
  refine lv_if_ge (tgt := 18) hx hb d_jm_floorMod_7 (by decide) (fun c1 => ?_) (fun c1 => ?_)
  · refine lv_iload_n hx hb d_jm_floorMod_18 rfl (lv_at hl 0 rfl) ?_
    exact cg_iret (u := ()) hQ hx hb hr hlk hK hP hD hS (by unfold fm; simp_all) d_jm_floorMod_19
  · refine lv_iload_n hx hb d_jm_floorMod_10 rfl (lv_at hl 0 rfl) ?_
    refine lv_if_eq (tgt := 18) hx hb d_jm_floorMod_11 (by decide) (fun c2 => ?_) (fun c2 => ?_)
    · refine lv_iload_n hx hb d_jm_floorMod_18 rfl (lv_at hl 0 rfl) ?_
      exact cg_iret (u := ()) hQ hx hb hr hlk hK hP hD hS (by unfold fm; simp_all) d_jm_floorMod_19
    · refine lv_iload_n hx hb d_jm_floorMod_14 rfl (lv_at hl 0 rfl) ?_
      refine lv_iload_n hx hb d_jm_floorMod_15 rfl (lv_at hl 2 rfl) ?_
      refine lv_iadd hx hb d_jm_floorMod_16 ?_
      exact cg_iret (u := ()) hQ hx hb hr hlk hK hP hD hS (by unfold fm; simp_all) d_jm_floorMod_17
