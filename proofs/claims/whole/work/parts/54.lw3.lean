-- The law (3): pour, same, its loop: printed by wip/whole/gen/lw3.py
set_option maxRecDepth 100000 in
set_option maxHeartbeats 4000000 in
/-- pour -/
theorem cs_9 {L : Nat} {xs : Nat → Int32} (p : Program) (l : Launch) (e : Env) (s : State) (m : MethodId) (below : List Frame) (meth : Method) (c : Code) (D : va_G) (cI cT cP : ClassId) (b h r : Nat) (ft : Nat → Option Nat) (a : Nat → Nat) (h2 r2 : Nat) (ft2 : Nat → Option Nat) (g : Nat → Nat) (Q : State → Prop) (hx : p.tables.exec = Jvm.exec) (hb : c.code = code) (hml : c.maxLocals = 4) (hown : s.vm.findClass "HashHallLaw" = some m.cls) (hts : ∀ w ∈ al, w.before #[Value.ref b] s = true) (hX : va_X b L xs s s.heap) (hbl : b < s.heap.size) (hK : va_K D cls (ty3 cI cT cP) s) (hft : ∀ k, k < 3 → ft k = some (a k)) (hft2 : ∀ k, k < 3 → ft2 k = some (g k)) (hL : L ≤ 2560) (n : Nat) (hn5 : 5 * n + 5 ≤ L) (hN : LNx p l e s m below meth c D cI cT cP b h r ft a h2 r2 ft2 g Q (n + 1) (5 * n) 707) : LNx p l e s m below meth c D cI cT cP b h r ft a h2 r2 ft2 g Q n (5 * n) 444 := by
  intro LL jj uu ii vv hI H locs hP hD hS ls hl
  have hA : ∀ q : Nat, s.heap.size ≤ q → (fun q : Nat => s.heap.size ≤ q) q := fun _ h => h
  have hbA : ¬ (fun q : Nat => s.heap.size ≤ q) b := Nat.not_le.mpr hbl
  have hc1 := c_7 (jj := jj) (fun k hk => tl_7 (hI.1 k hk).1)
  have hc2 := c_7 (jj := ii) (fun k hk => pl_7 (hI.1 k hk).2.1)
  have hrc : 1000 ≤ room_1.cells := by decide
  have hrs : 400000 ≤ room_1.slots := by decide
  have hn1 : n + 1 ≤ 512 := by omega
  by_cases hq : bad (xs (5 * n + 1)) ∨ bad (xs (5 * n + 2)) ∨ (xs (5 * n + 1)) = (xs (5 * n + 2))
  · refine lv_aload_n hx hb d_lw_444 rfl (lv_at hl 1 rfl) ?_
    refine lv_aload_n hx hb d_lw_445 rfl (lv_at hl 0 rfl) ?_
    refine lv_iload_n hx hb d_lw_446 rfl (lv_at hl 3 rfl) ?_
    refine lv_iconst (v := 1) hx hb d_lw_447 (by decide) ?_
    refine lv_iadd hx hb d_lw_448 ?_
    refine tp_i (y := nI (5 * n + 1)) (nI_add (5 * n) 1) ?_
    refine wa_sld (k := 5 * n + 1) hx hb hX hbl hbA hS (by omega) (by omega) d_lw_449 ?_
    refine lv_aload_n hx hb d_lw_450 rfl (lv_at hl 0 rfl) ?_
    refine lv_iload_n hx hb d_lw_451 rfl (lv_at hl 3 rfl) ?_
    refine lv_iconst (v := 2) hx hb d_lw_452 (by decide) ?_
    refine lv_iadd hx hb d_lw_453 ?_
    refine tp_i (y := nI (5 * n + 2)) (nI_add (5 * n) 2) ?_
    refine wa_sld (k := 5 * n + 2) hx hb hX hbl hbA hS (by omega) (by omega) d_lw_454 ?_
    refine hh_V1 (hn := 2) (As := [.int (xs (5 * n + 1)), .int (xs (5 * n + 2))]) (rest := [])  hx hb hml hown hts  (c_hh_pour_x l D cI cT cP h r ft (fun k hk => ⟨_, hft k hk⟩) (xs (5 * n + 1)) (xs (5 * n + 2)) hq) km_lw_53 ki_hh_pour ks_hh_pour kn_hh kc_hh_pour (by decide +kernel) rfl ⟨Nat.le_of_ble_eq_true rfl, Nat.le_of_ble_eq_true rfl⟩ hK hP hD hS hA hl.1 rfl (Nat.le_of_ble_eq_true rfl) d_lw_455 ⟨by omega, by omega⟩ (fun v u H locs hpost hP hD hS => ?_)
    subst hpost
    refine W.eq (g2 := F0 m 458 ls [.int (-1)]) rfl ?_
    refine lv_aload_n hx hb d_lw_458 rfl (lv_at hl 2 rfl) ?_
    refine lv_aload_n hx hb d_lw_459 rfl (lv_at hl 0 rfl) ?_
    refine lv_iload_n hx hb d_lw_460 rfl (lv_at hl 3 rfl) ?_
    refine lv_iconst (v := 1) hx hb d_lw_461 (by decide) ?_
    refine lv_iadd hx hb d_lw_462 ?_
    refine tp_i (y := nI (5 * n + 1)) (nI_add (5 * n) 1) ?_
    refine wa_sld (k := 5 * n + 1) hx hb hX hbl hbA hS (by omega) (by omega) d_lw_463 ?_
    refine lv_aload_n hx hb d_lw_464 rfl (lv_at hl 0 rfl) ?_
    refine lv_iload_n hx hb d_lw_465 rfl (lv_at hl 3 rfl) ?_
    refine lv_iconst (v := 2) hx hb d_lw_466 (by decide) ?_
    refine lv_iadd hx hb d_lw_467 ?_
    refine tp_i (y := nI (5 * n + 2)) (nI_add (5 * n) 2) ?_
    refine wa_sld (k := 5 * n + 2) hx hb hX hbl hbA hS (by omega) (by omega) d_lw_468 ?_
    refine md_V0 (hn := 2) (As := [.int (xs (5 * n + 1)), .int (xs (5 * n + 2))]) (rest := [.int (-1)])  hx hb hml hown hts  (c_md_pour_x l D cI cT cP h2 r2 (xs (5 * n + 1)) (xs (5 * n + 2)) hq) km_lw_57 ki_md_pour ks_md_pour kn_md kc_md_pour (by decide +kernel) rfl ⟨Nat.le_of_ble_eq_true rfl, Nat.le_of_ble_eq_true rfl⟩ hK hP hD hS hA hl.1 rfl (Nat.le_of_ble_eq_true rfl) d_lw_469 ⟨by omega, by omega⟩ (fun v u H locs hpost hP hD hS => ?_)
    subst hpost
    refine W.eq (g2 := F0 m 472 ls [.int (-1), .int (-1)]) rfl ?_
    refine lv_icmp_eq (tgt := 707) hx hb d_lw_472 (by decide) (fun _ => ?_) (fun z9 => absurd rfl z9)
    refine W.widen (k := 43 + cA_ jj + cR ii) (n := 596 + sA_ jj + sR ii) (by omega) (by omega) ?_
    exact hN _ _ _ _ _ (li_mono hI hn1) _ _ hP hD hS ls hl
  · obtain ⟨k1, hk1, e1⟩ : ∃ k, k < 3 ∧ (xs (5 * n + 1)) = nI k := (bad_or (xs (5 * n + 1))).elim (fun z9 => absurd (Or.inl z9) hq) id
    obtain ⟨k2, hk2, e2⟩ : ∃ k, k < 3 ∧ (xs (5 * n + 2)) = nI k := (bad_or (xs (5 * n + 2))).elim (fun z9 => absurd (Or.inr (Or.inl z9)) hq) id
    have hne : ¬ k1 = k2 := fun z9 => hq (Or.inr (Or.inr (by rw [e1, e2, z9])))
    have hj9 := pp_7 (k1 := k1) (k2 := k2) (mv := decide (k2 = 2)) (j := jj k2) (L := LL k2) (L1 := LL k1) (c := n + 1) (tl_7 (hI.1 k2 hk2).1) (by have := (hI.1 k2 hk2).2.2; omega)
    have hjA : jj k2 ≤ (pp k1 k2 (decide (k2 = 2)) (jj k2, LL k2) (LL k1)).1 := by
      unfold pp
      show jj k2 ≤ (if po_ k1 k2 (LL k1) (LL k2) then pj (decide (k2 = 2)) (jj k2, LL k2) (LL k1) else (jj k2, LL k2)).1
      split
      · exact pj_le (jj k2, LL k2)
      · exact Nat.le_refl _
    have hiA : ii k2 ≤ (ppr k1 k2 (decide (k2 = 2)) (ii k2, LL k2) (LL k1)).1 := by
      unfold ppr
      show ii k2 ≤ (if po_ k1 k2 (LL k1) (LL k2) then pjr (decide (k2 = 2)) (ii k2, LL k2) (LL k1) else (ii k2, LL k2)).1
      split
      · exact pjr_le (ii k2, LL k2)
      · exact Nat.le_refl _
    have hm1 := mT_7 (a := jj k2) hj9.1
    have hm2 := mT_7 (a := ii k2) (ppr_7 (k1 := k1) (k2 := k2) (mv := decide (k2 = 2)) (j := ii k2) (L := LL k2) (L1 := LL k1) (pl_7 (hI.1 k2 hk2).2.1))
    have hu1 := cA_up hk2 hjA
    have hu2 := sA_up hk2 hjA
    have hu3 := cR_up hk2 hiA
    have hu4 := sR_up hk2 hiA
    refine lv_aload_n hx hb d_lw_444 rfl (lv_at hl 1 rfl) ?_
    refine lv_aload_n hx hb d_lw_445 rfl (lv_at hl 0 rfl) ?_
    refine lv_iload_n hx hb d_lw_446 rfl (lv_at hl 3 rfl) ?_
    refine lv_iconst (v := 1) hx hb d_lw_447 (by decide) ?_
    refine lv_iadd hx hb d_lw_448 ?_
    refine tp_i (y := nI (5 * n + 1)) (nI_add (5 * n) 1) ?_
    refine wa_sld (k := 5 * n + 1) hx hb hX hbl hbA hS (by omega) (by omega) d_lw_449 ?_
    refine tp_i (y := nI k1) e1 ?_
    refine lv_aload_n hx hb d_lw_450 rfl (lv_at hl 0 rfl) ?_
    refine lv_iload_n hx hb d_lw_451 rfl (lv_at hl 3 rfl) ?_
    refine lv_iconst (v := 2) hx hb d_lw_452 (by decide) ?_
    refine lv_iadd hx hb d_lw_453 ?_
    refine tp_i (y := nI (5 * n + 2)) (nI_add (5 * n) 2) ?_
    refine wa_sld (k := 5 * n + 2) hx hb hX hbl hbA hS (by omega) (by omega) d_lw_454 ?_
    refine tp_i (y := nI k2) e2 ?_
    refine hh_V2 (hn := 2) (As := [.int (nI k1), .int (nI k2)]) (rest := []) (k := k1) (kb := k2) (jn := (pp k1 k2 (decide (k2 = 2)) (jj k2, LL k2) (LL k1)).1) (gu := fun u => u) hx hb hml hown hts hk1 hk2 hne (c_hh_pour l D cI cT cP h r ft k1 hk1 (a k1) (hft k1 hk1) k2 hk2 (a k2) (hft k2 hk2) (decide (k1 = 2)) (jj k1) (LL k1) (uu k1) (hI.1 k1 hk1).1 (decide (k2 = 2)) (jj k2) (LL k2) (uu k2) (hI.1 k2 hk2).1 hne) km_lw_53 ki_hh_pour ks_hh_pour kn_hh kc_hh_pour (by decide +kernel) rfl ⟨Nat.le_of_ble_eq_true rfl, Nat.le_of_ble_eq_true rfl⟩ hK hP hD hS hA hl.1 rfl (Nat.le_of_ble_eq_true rfl) d_lw_455 ⟨by omega, by omega⟩ (fun v u9 H locs hpost hP hD hS => ?_)
    obtain ⟨e9, hT9⟩ := hpost
    subst e9
    refine W.eq (g2 := F0 m 458 ls [.int (pa k1 k2 (decide (k2 = 2)) (jj k2, LL k2) (LL k1))]) rfl ?_
    refine lv_aload_n hx hb d_lw_458 rfl (lv_at hl 2 rfl) ?_
    refine lv_aload_n hx hb d_lw_459 rfl (lv_at hl 0 rfl) ?_
    refine lv_iload_n hx hb d_lw_460 rfl (lv_at hl 3 rfl) ?_
    refine lv_iconst (v := 1) hx hb d_lw_461 (by decide) ?_
    refine lv_iadd hx hb d_lw_462 ?_
    refine tp_i (y := nI (5 * n + 1)) (nI_add (5 * n) 1) ?_
    refine wa_sld (k := 5 * n + 1) hx hb hX hbl hbA hS (by omega) (by omega) d_lw_463 ?_
    refine tp_i (y := nI k1) e1 ?_
    refine lv_aload_n hx hb d_lw_464 rfl (lv_at hl 0 rfl) ?_
    refine lv_iload_n hx hb d_lw_465 rfl (lv_at hl 3 rfl) ?_
    refine lv_iconst (v := 2) hx hb d_lw_466 (by decide) ?_
    refine lv_iadd hx hb d_lw_467 ?_
    refine tp_i (y := nI (5 * n + 2)) (nI_add (5 * n) 2) ?_
    refine wa_sld (k := 5 * n + 2) hx hb hX hbl hbA hS (by omega) (by omega) d_lw_468 ?_
    refine tp_i (y := nI k2) e2 ?_
    refine md_V2 (hn := 2) (As := [.int (nI k1), .int (nI k2)]) (rest := [.int (pa k1 k2 (decide (k2 = 2)) (jj k2, LL k2) (LL k1))]) (k := k1) (kb := k2) (jn := (ppr k1 k2 (decide (k2 = 2)) (ii k2, LL k2) (LL k1)).1) (gu := fun u => u) hx hb hml hown hts hk1 hk2 hne (c_md_pour l D cI cT cP h2 r2 ft2 k1 hk1 (g k1) (hft2 k1 hk1) k2 hk2 (g k2) (hft2 k2 hk2) (ii k1) (LL k1) (vv k1) (hI.1 k1 hk1).2.1 (ii k2) (LL k2) (vv k2) (hI.1 k2 hk2).2.1 hne) km_lw_57 ki_md_pour ks_md_pour kn_md kc_md_pour (by decide +kernel) rfl ⟨Nat.le_of_ble_eq_true rfl, Nat.le_of_ble_eq_true rfl⟩ hK hP hD hS hA hl.1 rfl (Nat.le_of_ble_eq_true rfl) d_lw_469 ⟨by omega, by omega⟩ (fun v v9 H locs hpost hP hD hS => ?_)
    obtain ⟨e9, hP9⟩ := hpost
    subst e9
    refine W.eq (g2 := F0 m 472 ls [.int (par_ k1 k2 (decide (k2 = 2)) (ii k2, LL k2) (LL k1)), .int (pa k1 k2 (decide (k2 = 2)) (jj k2, LL k2) (LL k1))]) rfl ?_
    refine lv_icmp_eq (tgt := 707) hx hb d_lw_472 (by decide) (fun _ => ?_) (fun z9 => absurd (pa_eq _ _ _ _) z9)
    refine W.widen (k := 43 + cA_ (va_up jj k2 (pp k1 k2 (decide (k2 = 2)) (jj k2, LL k2) (LL k1)).1) + cR (va_up ii k2 (ppr k1 k2 (decide (k2 = 2)) (ii k2, LL k2) (LL k1)).1)) (n := 596 + sA_ (va_up jj k2 (pp k1 k2 (decide (k2 = 2)) (jj k2, LL k2) (LL k1)).1) + sR (va_up ii k2 (ppr k1 k2 (decide (k2 = 2)) (ii k2, LL k2) (LL k1)).1)) (by omega) (by omega) ?_
    exact hN _ _ _ _ _ (li_up hI hn1 k2 (L' := (pp k1 k2 (decide (k2 = 2)) (jj k2, LL k2) (LL k1)).2) hT9 (by rw [pp_eq (jj k2) (ii k2) (LL k2) (LL k1)]; exact hP9) (by have := hj9.2; omega)) _ _ hP hD hS ls hl
set_option maxRecDepth 100000 in
set_option maxHeartbeats 4000000 in
/-- same -/
theorem cs_14 {L : Nat} {xs : Nat → Int32} (p : Program) (l : Launch) (e : Env) (s : State) (m : MethodId) (below : List Frame) (meth : Method) (c : Code) (D : va_G) (cI cT cP : ClassId) (b h r : Nat) (ft : Nat → Option Nat) (a : Nat → Nat) (h2 r2 : Nat) (ft2 : Nat → Option Nat) (g : Nat → Nat) (Q : State → Prop) (hx : p.tables.exec = Jvm.exec) (hb : c.code = code) (hml : c.maxLocals = 4) (hown : s.vm.findClass "HashHallLaw" = some m.cls) (hts : ∀ w ∈ al, w.before #[Value.ref b] s = true) (hX : va_X b L xs s s.heap) (hbl : b < s.heap.size) (hK : va_K D cls (ty3 cI cT cP) s) (hft : ∀ k, k < 3 → ft k = some (a k)) (hft2 : ∀ k, k < 3 → ft2 k = some (g k)) (hL : L ≤ 2560) (n : Nat) (hn5 : 5 * n + 5 ≤ L) (hN : LNx p l e s m below meth c D cI cT cP b h r ft a h2 r2 ft2 g Q (n + 1) (5 * n) 707) : LNx p l e s m below meth c D cI cT cP b h r ft a h2 r2 ft2 g Q n (5 * n) 621 := by
  intro LL jj uu ii vv hI H locs hP hD hS ls hl
  have hA : ∀ q : Nat, s.heap.size ≤ q → (fun q : Nat => s.heap.size ≤ q) q := fun _ h => h
  have hbA : ¬ (fun q : Nat => s.heap.size ≤ q) b := Nat.not_le.mpr hbl
  have hc1 := c_7 (jj := jj) (fun k hk => tl_7 (hI.1 k hk).1)
  have hc2 := c_7 (jj := ii) (fun k hk => pl_7 (hI.1 k hk).2.1)
  have hrc : 1000 ≤ room_1.cells := by decide
  have hrs : 400000 ≤ room_1.slots := by decide
  have hn1 : n + 1 ≤ 512 := by omega
  by_cases hq : bad (xs (5 * n + 1)) ∨ bad (xs (5 * n + 2))
  · refine lv_aload_n hx hb d_lw_621 rfl (lv_at hl 1 rfl) ?_
    refine lv_aload_n hx hb d_lw_622 rfl (lv_at hl 0 rfl) ?_
    refine lv_iload_n hx hb d_lw_623 rfl (lv_at hl 3 rfl) ?_
    refine lv_iconst (v := 1) hx hb d_lw_624 (by decide) ?_
    refine lv_iadd hx hb d_lw_625 ?_
    refine tp_i (y := nI (5 * n + 1)) (nI_add (5 * n) 1) ?_
    refine wa_sld (k := 5 * n + 1) hx hb hX hbl hbA hS (by omega) (by omega) d_lw_626 ?_
    refine lv_aload_n hx hb d_lw_627 rfl (lv_at hl 0 rfl) ?_
    refine lv_iload_n hx hb d_lw_628 rfl (lv_at hl 3 rfl) ?_
    refine lv_iconst (v := 2) hx hb d_lw_629 (by decide) ?_
    refine lv_iadd hx hb d_lw_630 ?_
    refine tp_i (y := nI (5 * n + 2)) (nI_add (5 * n) 2) ?_
    refine wa_sld (k := 5 * n + 2) hx hb hX hbl hbA hS (by omega) (by omega) d_lw_631 ?_
    refine hh_V1 (hn := 2) (As := [.int (xs (5 * n + 1)), .int (xs (5 * n + 2))]) (rest := [])  hx hb hml hown hts  (c_hh_same_x l D cI cT cP h r ft (fun k hk => ⟨_, hft k hk⟩) (xs (5 * n + 1)) (xs (5 * n + 2)) hq) km_lw_76 ki_hh_same ks_hh_same kn_hh kc_hh_same (by decide +kernel) rfl ⟨Nat.le_of_ble_eq_true rfl, Nat.le_of_ble_eq_true rfl⟩ hK hP hD hS hA hl.1 rfl (Nat.le_of_ble_eq_true rfl) d_lw_632 ⟨by omega, by omega⟩ (fun v u H locs hpost hP hD hS => ?_)
    subst hpost
    refine W.eq (g2 := F0 m 635 ls [.int 0]) rfl ?_
    refine lv_aload_n hx hb d_lw_635 rfl (lv_at hl 2 rfl) ?_
    refine lv_aload_n hx hb d_lw_636 rfl (lv_at hl 0 rfl) ?_
    refine lv_iload_n hx hb d_lw_637 rfl (lv_at hl 3 rfl) ?_
    refine lv_iconst (v := 1) hx hb d_lw_638 (by decide) ?_
    refine lv_iadd hx hb d_lw_639 ?_
    refine tp_i (y := nI (5 * n + 1)) (nI_add (5 * n) 1) ?_
    refine wa_sld (k := 5 * n + 1) hx hb hX hbl hbA hS (by omega) (by omega) d_lw_640 ?_
    refine lv_aload_n hx hb d_lw_641 rfl (lv_at hl 0 rfl) ?_
    refine lv_iload_n hx hb d_lw_642 rfl (lv_at hl 3 rfl) ?_
    refine lv_iconst (v := 2) hx hb d_lw_643 (by decide) ?_
    refine lv_iadd hx hb d_lw_644 ?_
    refine tp_i (y := nI (5 * n + 2)) (nI_add (5 * n) 2) ?_
    refine wa_sld (k := 5 * n + 2) hx hb hX hbl hbA hS (by omega) (by omega) d_lw_645 ?_
    refine md_V0 (hn := 2) (As := [.int (xs (5 * n + 1)), .int (xs (5 * n + 2))]) (rest := [.int 0])  hx hb hml hown hts  (c_md_same_x l D cI cT cP h2 r2 (xs (5 * n + 1)) (xs (5 * n + 2)) hq) km_lw_80 ki_md_same ks_md_same kn_md kc_md_same (by decide +kernel) rfl ⟨Nat.le_of_ble_eq_true rfl, Nat.le_of_ble_eq_true rfl⟩ hK hP hD hS hA hl.1 rfl (Nat.le_of_ble_eq_true rfl) d_lw_646 ⟨by omega, by omega⟩ (fun v u H locs hpost hP hD hS => ?_)
    subst hpost
    refine W.eq (g2 := F0 m 649 ls [.int 0, .int 0]) rfl ?_
    refine lv_icmp_eq (tgt := 707) hx hb d_lw_649 (by decide) (fun _ => ?_) (fun z9 => absurd rfl z9)
    refine W.widen (k := 43 + cA_ jj + cR ii) (n := 596 + sA_ jj + sR ii) (by omega) (by omega) ?_
    exact hN _ _ _ _ _ (li_mono hI hn1) _ _ hP hD hS ls hl
  · obtain ⟨k1, hk1, e1⟩ : ∃ k, k < 3 ∧ (xs (5 * n + 1)) = nI k := (bad_or (xs (5 * n + 1))).elim (fun z9 => absurd (Or.inl z9) hq) id
    obtain ⟨k2, hk2, e2⟩ : ∃ k, k < 3 ∧ (xs (5 * n + 2)) = nI k := (bad_or (xs (5 * n + 2))).elim (fun z9 => absurd (Or.inr z9) hq) id
    by_cases hne : k1 = k2
    · subst hne
      have hu1 := cA_up hk1 (Nat.le_refl (jj k1))
      have hu2 := sA_up hk1 (Nat.le_refl (jj k1))
      have hu3 := cR_up hk1 (Nat.le_refl (ii k1))
      have hu4 := sR_up hk1 (Nat.le_refl (ii k1))
      refine lv_aload_n hx hb d_lw_621 rfl (lv_at hl 1 rfl) ?_
      refine lv_aload_n hx hb d_lw_622 rfl (lv_at hl 0 rfl) ?_
      refine lv_iload_n hx hb d_lw_623 rfl (lv_at hl 3 rfl) ?_
      refine lv_iconst (v := 1) hx hb d_lw_624 (by decide) ?_
      refine lv_iadd hx hb d_lw_625 ?_
      refine tp_i (y := nI (5 * n + 1)) (nI_add (5 * n) 1) ?_
      refine wa_sld (k := 5 * n + 1) hx hb hX hbl hbA hS (by omega) (by omega) d_lw_626 ?_
      refine tp_i (y := nI k1) e1 ?_
      refine lv_aload_n hx hb d_lw_627 rfl (lv_at hl 0 rfl) ?_
      refine lv_iload_n hx hb d_lw_628 rfl (lv_at hl 3 rfl) ?_
      refine lv_iconst (v := 2) hx hb d_lw_629 (by decide) ?_
      refine lv_iadd hx hb d_lw_630 ?_
      refine tp_i (y := nI (5 * n + 2)) (nI_add (5 * n) 2) ?_
      refine wa_sld (k := 5 * n + 2) hx hb hX hbl hbA hS (by omega) (by omega) d_lw_631 ?_
      refine tp_i (y := nI k1) e2 ?_
      refine hh_V (hn := 2) (As := [.int (nI k1), .int (nI k1)]) (rest := []) (k := k1) (jn := jj k1) (gu := fun _ => uu k1) hx hb hml hown hts hk1 (c_hh_same_s l D cI cT cP h r ft k1 hk1 (a k1) (hft k1 hk1) (decide (k1 = 2)) (jj k1) (LL k1) (uu k1) (hI.1 k1 hk1).1) km_lw_76 ki_hh_same ks_hh_same kn_hh kc_hh_same (by decide +kernel) rfl ⟨Nat.le_of_ble_eq_true rfl, Nat.le_of_ble_eq_true rfl⟩ hK hP hD hS hA hl.1 rfl (Nat.le_of_ble_eq_true rfl) d_lw_632 ⟨by omega, by omega⟩ (fun v u9 H locs hpost hP hD hS => ?_)
      subst hpost
      refine W.eq (g2 := F0 m 635 ls [.int 1]) rfl ?_
      refine lv_aload_n hx hb d_lw_635 rfl (lv_at hl 2 rfl) ?_
      refine lv_aload_n hx hb d_lw_636 rfl (lv_at hl 0 rfl) ?_
      refine lv_iload_n hx hb d_lw_637 rfl (lv_at hl 3 rfl) ?_
      refine lv_iconst (v := 1) hx hb d_lw_638 (by decide) ?_
      refine lv_iadd hx hb d_lw_639 ?_
      refine tp_i (y := nI (5 * n + 1)) (nI_add (5 * n) 1) ?_
      refine wa_sld (k := 5 * n + 1) hx hb hX hbl hbA hS (by omega) (by omega) d_lw_640 ?_
      refine tp_i (y := nI k1) e1 ?_
      refine lv_aload_n hx hb d_lw_641 rfl (lv_at hl 0 rfl) ?_
      refine lv_iload_n hx hb d_lw_642 rfl (lv_at hl 3 rfl) ?_
      refine lv_iconst (v := 2) hx hb d_lw_643 (by decide) ?_
      refine lv_iadd hx hb d_lw_644 ?_
      refine tp_i (y := nI (5 * n + 2)) (nI_add (5 * n) 2) ?_
      refine wa_sld (k := 5 * n + 2) hx hb hX hbl hbA hS (by omega) (by omega) d_lw_645 ?_
      refine tp_i (y := nI k1) e2 ?_
      refine md_V (hn := 2) (As := [.int (nI k1), .int (nI k1)]) (rest := [.int 1]) (k := k1) (jn := ii k1) (gu := fun _ => vv k1) hx hb hml hown hts hk1 (c_md_same_s l D cI cT cP h2 r2 ft2 k1 hk1 (g k1) (hft2 k1 hk1) (ii k1) (LL k1) (vv k1) (hI.1 k1 hk1).2.1) km_lw_80 ki_md_same ks_md_same kn_md kc_md_same (by decide +kernel) rfl ⟨Nat.le_of_ble_eq_true rfl, Nat.le_of_ble_eq_true rfl⟩ hK hP hD hS hA hl.1 rfl (Nat.le_of_ble_eq_true rfl) d_lw_646 ⟨by omega, by omega⟩ (fun v v9 H locs hpost hP hD hS => ?_)
      subst hpost
      refine W.eq (g2 := F0 m 649 ls [.int 1, .int 1]) rfl ?_
      refine lv_icmp_eq (tgt := 707) hx hb d_lw_649 (by decide) (fun _ => ?_) (fun z9 => absurd rfl z9)
      refine W.widen (k := 43 + cA_ (va_up jj k1 (jj k1)) + cR (va_up ii k1 (ii k1))) (n := 596 + sA_ (va_up jj k1 (jj k1)) + sR (va_up ii k1 (ii k1))) (by omega) (by omega) ?_
      exact hN _ _ _ _ _ (li_up hI hn1 k1 (L' := LL k1) (hI.1 k1 hk1).1 (hI.1 k1 hk1).2.1 (by have := (hI.1 k1 hk1).2.2; omega)) _ _ hP hD hS ls hl
    · have hu1 := cA_up hk2 (Nat.le_refl (jj k2))
      have hu2 := sA_up hk2 (Nat.le_refl (jj k2))
      have hu3 := cR_up hk2 (Nat.le_refl (ii k2))
      have hu4 := sR_up hk2 (Nat.le_refl (ii k2))
      refine lv_aload_n hx hb d_lw_621 rfl (lv_at hl 1 rfl) ?_
      refine lv_aload_n hx hb d_lw_622 rfl (lv_at hl 0 rfl) ?_
      refine lv_iload_n hx hb d_lw_623 rfl (lv_at hl 3 rfl) ?_
      refine lv_iconst (v := 1) hx hb d_lw_624 (by decide) ?_
      refine lv_iadd hx hb d_lw_625 ?_
      refine tp_i (y := nI (5 * n + 1)) (nI_add (5 * n) 1) ?_
      refine wa_sld (k := 5 * n + 1) hx hb hX hbl hbA hS (by omega) (by omega) d_lw_626 ?_
      refine tp_i (y := nI k1) e1 ?_
      refine lv_aload_n hx hb d_lw_627 rfl (lv_at hl 0 rfl) ?_
      refine lv_iload_n hx hb d_lw_628 rfl (lv_at hl 3 rfl) ?_
      refine lv_iconst (v := 2) hx hb d_lw_629 (by decide) ?_
      refine lv_iadd hx hb d_lw_630 ?_
      refine tp_i (y := nI (5 * n + 2)) (nI_add (5 * n) 2) ?_
      refine wa_sld (k := 5 * n + 2) hx hb hX hbl hbA hS (by omega) (by omega) d_lw_631 ?_
      refine tp_i (y := nI k2) e2 ?_
      refine hh_V2 (hn := 2) (As := [.int (nI k1), .int (nI k2)]) (rest := []) (k := k1) (kb := k2) (jn := jj k2) (gu := fun _ => uu k2) hx hb hml hown hts hk1 hk2 hne (c_hh_same l D cI cT cP h r ft k1 hk1 (a k1) (hft k1 hk1) k2 hk2 (a k2) (hft k2 hk2) (decide (k1 = 2)) (jj k1) (LL k1) (uu k1) (hI.1 k1 hk1).1 (decide (k2 = 2)) (jj k2) (LL k2) (uu k2) (hI.1 k2 hk2).1) km_lw_76 ki_hh_same ks_hh_same kn_hh kc_hh_same (by decide +kernel) rfl ⟨Nat.le_of_ble_eq_true rfl, Nat.le_of_ble_eq_true rfl⟩ hK hP hD hS hA hl.1 rfl (Nat.le_of_ble_eq_true rfl) d_lw_632 ⟨by omega, by omega⟩ (fun v u9 H locs hpost hP hD hS => ?_)
      subst hpost
      refine W.eq (g2 := F0 m 635 ls [.int (zI (mt (LL k1) (LL k2)))]) rfl ?_
      refine lv_aload_n hx hb d_lw_635 rfl (lv_at hl 2 rfl) ?_
      refine lv_aload_n hx hb d_lw_636 rfl (lv_at hl 0 rfl) ?_
      refine lv_iload_n hx hb d_lw_637 rfl (lv_at hl 3 rfl) ?_
      refine lv_iconst (v := 1) hx hb d_lw_638 (by decide) ?_
      refine lv_iadd hx hb d_lw_639 ?_
      refine tp_i (y := nI (5 * n + 1)) (nI_add (5 * n) 1) ?_
      refine wa_sld (k := 5 * n + 1) hx hb hX hbl hbA hS (by omega) (by omega) d_lw_640 ?_
      refine tp_i (y := nI k1) e1 ?_
      refine lv_aload_n hx hb d_lw_641 rfl (lv_at hl 0 rfl) ?_
      refine lv_iload_n hx hb d_lw_642 rfl (lv_at hl 3 rfl) ?_
      refine lv_iconst (v := 2) hx hb d_lw_643 (by decide) ?_
      refine lv_iadd hx hb d_lw_644 ?_
      refine tp_i (y := nI (5 * n + 2)) (nI_add (5 * n) 2) ?_
      refine wa_sld (k := 5 * n + 2) hx hb hX hbl hbA hS (by omega) (by omega) d_lw_645 ?_
      refine tp_i (y := nI k2) e2 ?_
      refine md_V2 (hn := 2) (As := [.int (nI k1), .int (nI k2)]) (rest := [.int (zI (mt (LL k1) (LL k2)))]) (k := k1) (kb := k2) (jn := ii k2) (gu := fun _ => vv k2) hx hb hml hown hts hk1 hk2 hne (c_md_same l D cI cT cP h2 r2 ft2 k1 hk1 (g k1) (hft2 k1 hk1) k2 hk2 (g k2) (hft2 k2 hk2) (ii k1) (LL k1) (vv k1) (hI.1 k1 hk1).2.1 (ii k2) (LL k2) (vv k2) (hI.1 k2 hk2).2.1) km_lw_80 ki_md_same ks_md_same kn_md kc_md_same (by decide +kernel) rfl ⟨Nat.le_of_ble_eq_true rfl, Nat.le_of_ble_eq_true rfl⟩ hK hP hD hS hA hl.1 rfl (Nat.le_of_ble_eq_true rfl) d_lw_646 ⟨by omega, by omega⟩ (fun v v9 H locs hpost hP hD hS => ?_)
      subst hpost
      refine W.eq (g2 := F0 m 649 ls [.int (zI (mt (LL k1) (LL k2))), .int (zI (mt (LL k1) (LL k2)))]) rfl ?_
      refine lv_icmp_eq (tgt := 707) hx hb d_lw_649 (by decide) (fun _ => ?_) (fun z9 => absurd rfl z9)
      refine W.widen (k := 43 + cA_ (va_up jj k2 (jj k2)) + cR (va_up ii k2 (ii k2))) (n := 596 + sA_ (va_up jj k2 (jj k2)) + sR (va_up ii k2 (ii k2))) (by omega) (by omega) ?_
      exact hN _ _ _ _ _ (li_up hI hn1 k2 (L' := LL k2) (hI.1 k2 hk2).1 (hI.1 k2 hk2).2.1 (by have := (hI.1 k2 hk2).2.2; omega)) _ _ hP hD hS ls hl
set_option maxRecDepth 100000 in
set_option maxHeartbeats 4000000 in
/-- the law's loop, what comes behind it given -/
theorem law_loop {L : Nat} {xs : Nat → Int32} (p : Program) (l : Launch) (e : Env) (s : State) (m : MethodId) (below : List Frame) (meth : Method) (c : Code) (D : va_G) (cI cT cP : ClassId) (b h r : Nat) (ft : Nat → Option Nat) (a : Nat → Nat) (h2 r2 : Nat) (ft2 : Nat → Option Nat) (g : Nat → Nat) (Q : State → Prop) (hx : p.tables.exec = Jvm.exec) (hb : c.code = code) (hml : c.maxLocals = 4) (hown : s.vm.findClass "HashHallLaw" = some m.cls) (hts : ∀ w ∈ al, w.before #[Value.ref b] s = true) (hX : va_X b L xs s s.heap) (hbl : b < s.heap.size) (hK : va_K D cls (ty3 cI cT cP) s) (hft : ∀ k, k < 3 → ft k = some (a k)) (hft2 : ∀ k, k < 3 → ft2 k = some (g k)) (hL : L ≤ 2560) (hE : ∀ n i : Nat, n ≤ 512 → LNx p l e s m below meth c D cI cT cP b h r ft a h2 r2 ft2 g Q n i 713) : ∀ (fu n : Nat), L < 5 * n + 5 * fu + 5 → 5 * n ≤ L → LNx p l e s m below meth c D cI cT cP b h r ft a h2 r2 ft2 g Q n (5 * n) 18 := by
  intro fu
  induction fu with
  | zero =>
    intro n hb1_ hb2_
    intro LL jj uu ii vv hI H locs hP hD hS ls hl
    have hbA : ¬ (fun q : Nat => s.heap.size ≤ q) b := Nat.not_le.mpr hbl
    refine lv_iload_n hx hb d_lw_18 rfl (lv_at hl 3 rfl) ?_
    refine lv_aload_n hx hb d_lw_19 rfl (lv_at hl 0 rfl) ?_
    refine va_slen hx hb hX hbl hbA hS d_lw_20 ?_
    refine tp_i (y := nI L) rfl ?_
    refine lv_iconst (v := 5) hx hb d_lw_21 (by decide) ?_
    refine lv_isub hx hb d_lw_22 ?_
    refine lv_icmp_gt (tgt := 713) hx hb d_lw_23 (by decide) (fun _ => ?_) (fun z9 => absurd (by
      rcases Nat.lt_or_ge L 5 with h9 | h9
      · have h8 := pk_sneg (a := L) (b := 5) (by decide) h9
        have h7 := nI_pos' (n := 5 * n) (by omega)
        rw [Int32.lt_iff_toInt_lt] at h8 ⊢
        rw [Int32.le_iff_toInt_le] at h7
        exact Int.lt_of_lt_of_le h8 h7
      · have h8 : nI L - 5 = nI (L - 5) := pk_sub (a := L) (b := 5) h9
        rw [h8]
        exact nI_lt (by omega) (by omega)) z9)
    exact hE n (5 * n) hI.2 LL jj uu ii vv hI H locs hP hD hS ls hl
  | succ fu ih =>
    intro n hb1_ hb2_
    intro LL jj uu ii vv hI H locs hP hD hS ls hl
    have hbA : ¬ (fun q : Nat => s.heap.size ≤ q) b := Nat.not_le.mpr hbl
    by_cases h5 : 5 * n + 5 ≤ L
    · have h8 : nI L - 5 = nI (L - 5) := pk_sub (a := L) (b := 5) (by omega)
      refine lv_iload_n hx hb d_lw_18 rfl (lv_at hl 3 rfl) ?_
      refine lv_aload_n hx hb d_lw_19 rfl (lv_at hl 0 rfl) ?_
      refine va_slen hx hb hX hbl hbA hS d_lw_20 ?_
      refine tp_i (y := nI L) rfl ?_
      refine lv_iconst (v := 5) hx hb d_lw_21 (by decide) ?_
      refine lv_isub hx hb d_lw_22 ?_
      refine lv_icmp_gt (tgt := 713) hx hb d_lw_23 (by decide) (fun z9 => absurd z9 (by rw [h8]; exact nI_nlt (by omega) (by omega))) (fun _ => ?_)
      refine lv_aload_n hx hb d_lw_26 rfl (lv_at hl 0 rfl) ?_
      refine lv_iload_n hx hb d_lw_27 rfl (lv_at hl 3 rfl) ?_
      refine wa_sld (k := 5 * n) hx hb hX hbl hbA hS (by omega) (by omega) d_lw_28 ?_
      refine lv_bipush (v := 15) hx hb d_lw_29 (by decide) ?_
      refine lv_iand hx hb d_lw_31 ?_
      obtain ⟨t, ht, et⟩ := pk_andE (xs (5 * n)) (m := 15) 4 (by decide)
      have ht : t < 16 := ht
      refine tp_i (y := nI t) et ?_
      have hT : LNx p l e s m below meth c D cI cT cP b h r ft a h2 r2 ft2 g Q (n + 1) (5 * n) 707 := by
        intro LL jj uu ii vv hI H locs hP hD hS ls hl
        refine lv_iinc (v := nI (5 * (n + 1))) (lv' := [(3, .int (nI (5 * (n + 1)))), (0, .ref b), (1, .ref h), (2, .ref h2)]) hx hb d_lw_707 hl (k := 3) rfl (nI_add (5 * n) 5) (by decide) rfl (fun ls hl => ?_)
        refine lv_goto (tgt := 18) hx hb d_lw_710 (by decide) ?_
        exact ih (n + 1) (by omega) (by omega) LL jj uu ii vv hI H locs hP hD hS ls (lv_sub hl [1, 2, 3, 0] rfl)
      rcases (show t = 0 ∨ t = 1 ∨ t = 2 ∨ t = 3 ∨ t = 4 ∨ t = 5 ∨ t = 6 ∨ t = 7 ∨ t = 8 ∨ t = 9 ∨ t = 10 ∨ t = 11 ∨ t = 12 ∨ t = 13 ∨ t = 14 ∨ t = 15 by omega) with rfl | rfl | rfl | rfl | rfl | rfl | rfl | rfl | rfl | rfl | rfl | rfl | rfl | rfl | rfl | rfl
      · refine lv_tableIn (off := 80) (tgt := 112) hx hb d_lw_32 (by decide) (by decide) (by decide) (by decide) ?_
        exact cs_0 p l e s m below meth c D cI cT cP b h r ft a h2 r2 ft2 g Q hx hb hml hown hts hX hbl hK hft hft2 hL n h5 hT LL jj uu ii vv hI H locs hP hD hS ls hl
      · refine lv_tableIn (off := 124) (tgt := 156) hx hb d_lw_32 (by decide) (by decide) (by decide) (by decide) ?_
        exact cs_1 p l e s m below meth c D cI cT cP b h r ft a h2 r2 ft2 g Q hx hb hml hown hts hX hbl hK hft hft2 hL n h5 hT LL jj uu ii vv hI H locs hP hD hS ls hl
      · refine lv_tableIn (off := 168) (tgt := 200) hx hb d_lw_32 (by decide) (by decide) (by decide) (by decide) ?_
        exact cs_2 p l e s m below meth c D cI cT cP b h r ft a h2 r2 ft2 g Q hx hb hml hown hts hX hbl hK hft hft2 hL n h5 hT LL jj uu ii vv hI H locs hP hD hS ls hl
      · refine lv_tableIn (off := 202) (tgt := 234) hx hb d_lw_32 (by decide) (by decide) (by decide) (by decide) ?_
        exact cs_3 p l e s m below meth c D cI cT cP b h r ft a h2 r2 ft2 g Q hx hb hml hown hts hX hbl hK hft hft2 hL n h5 hT LL jj uu ii vv hI H locs hP hD hS ls hl
      · refine lv_tableIn (off := 246) (tgt := 278) hx hb d_lw_32 (by decide) (by decide) (by decide) (by decide) ?_
        exact cs_4 p l e s m below meth c D cI cT cP b h r ft a h2 r2 ft2 g Q hx hb hml hown hts hX hbl hK hft hft2 hL n h5 hT LL jj uu ii vv hI H locs hP hD hS ls hl
      · refine lv_tableIn (off := 280) (tgt := 312) hx hb d_lw_32 (by decide) (by decide) (by decide) (by decide) ?_
        exact cs_5 p l e s m below meth c D cI cT cP b h r ft a h2 r2 ft2 g Q hx hb hml hown hts hX hbl hK hft hft2 hL n h5 hT LL jj uu ii vv hI H locs hP hD hS ls hl
      · refine lv_tableIn (off := 323) (tgt := 355) hx hb d_lw_32 (by decide) (by decide) (by decide) (by decide) ?_
        exact cs_6 p l e s m below meth c D cI cT cP b h r ft a h2 r2 ft2 g Q hx hb hml hown hts hX hbl hK hft hft2 hL n h5 hT LL jj uu ii vv hI H locs hP hD hS ls hl
      · refine lv_tableIn (off := 366) (tgt := 398) hx hb d_lw_32 (by decide) (by decide) (by decide) (by decide) ?_
        exact cs_7 p l e s m below meth c D cI cT cP b h r ft a h2 r2 ft2 g Q hx hb hml hown hts hX hbl hK hft hft2 hL n h5 hT LL jj uu ii vv hI H locs hP hD hS ls hl
      · refine lv_tableIn (off := 389) (tgt := 421) hx hb d_lw_32 (by decide) (by decide) (by decide) (by decide) ?_
        exact cs_8 p l e s m below meth c D cI cT cP b h r ft a h2 r2 ft2 g Q hx hb hml hown hts hX hbl hK hft hft2 hL n h5 hT LL jj uu ii vv hI H locs hP hD hS ls hl
      · refine lv_tableIn (off := 412) (tgt := 444) hx hb d_lw_32 (by decide) (by decide) (by decide) (by decide) ?_
        exact cs_9 p l e s m below meth c D cI cT cP b h r ft a h2 r2 ft2 g Q hx hb hml hown hts hX hbl hK hft hft2 hL n h5 hT LL jj uu ii vv hI H locs hP hD hS ls hl
      · refine lv_tableIn (off := 445) (tgt := 477) hx hb d_lw_32 (by decide) (by decide) (by decide) (by decide) ?_
        exact cs_10 p l e s m below meth c D cI cT cP b h r ft a h2 r2 ft2 g Q hx hb hml hown hts hX hbl hK hft hft2 hL n h5 hT LL jj uu ii vv hI H locs hP hD hS ls hl
      · refine lv_tableIn (off := 489) (tgt := 521) hx hb d_lw_32 (by decide) (by decide) (by decide) (by decide) ?_
        exact cs_11 p l e s m below meth c D cI cT cP b h r ft a h2 r2 ft2 g Q hx hb hml hown hts hX hbl hK hft hft2 hL n h5 hT LL jj uu ii vv hI H locs hP hD hS ls hl
      · refine lv_tableIn (off := 513) (tgt := 545) hx hb d_lw_32 (by decide) (by decide) (by decide) (by decide) ?_
        exact cs_12 p l e s m below meth c D cI cT cP b h r ft a h2 r2 ft2 g Q hx hb hml hown hts hX hbl hK hft hft2 hL n h5 hT LL jj uu ii vv hI H locs hP hD hS ls hl
      · refine lv_tableIn (off := 556) (tgt := 588) hx hb d_lw_32 (by decide) (by decide) (by decide) (by decide) ?_
        exact cs_13 p l e s m below meth c D cI cT cP b h r ft a h2 r2 ft2 g Q hx hb hml hown hts hX hbl hK hft hft2 hL n h5 hT LL jj uu ii vv hI H locs hP hD hS ls hl
      · refine lv_tableIn (off := 589) (tgt := 621) hx hb d_lw_32 (by decide) (by decide) (by decide) (by decide) ?_
        exact cs_14 p l e s m below meth c D cI cT cP b h r ft a h2 r2 ft2 g Q hx hb hml hown hts hX hbl hK hft hft2 hL n h5 hT LL jj uu ii vv hI H locs hP hD hS ls hl
      · refine lv_tableIn (off := 622) (tgt := 654) hx hb d_lw_32 (by decide) (by decide) (by decide) (by decide) ?_
        exact cs_15 p l e s m below meth c D cI cT cP b h r ft a h2 r2 ft2 g Q hx hb hml hown hts hX hbl hK hft hft2 hL n h5 hT LL jj uu ii vv hI H locs hP hD hS ls hl
    · refine lv_iload_n hx hb d_lw_18 rfl (lv_at hl 3 rfl) ?_
      refine lv_aload_n hx hb d_lw_19 rfl (lv_at hl 0 rfl) ?_
      refine va_slen hx hb hX hbl hbA hS d_lw_20 ?_
      refine tp_i (y := nI L) rfl ?_
      refine lv_iconst (v := 5) hx hb d_lw_21 (by decide) ?_
      refine lv_isub hx hb d_lw_22 ?_
      refine lv_icmp_gt (tgt := 713) hx hb d_lw_23 (by decide) (fun _ => ?_) (fun z9 => absurd (by
        rcases Nat.lt_or_ge L 5 with h9 | h9
        · have h8 := pk_sneg (a := L) (b := 5) (by decide) h9
          have h7 := nI_pos' (n := 5 * n) (by omega)
          rw [Int32.lt_iff_toInt_lt] at h8 ⊢
          rw [Int32.le_iff_toInt_le] at h7
          exact Int.lt_of_lt_of_le h8 h7
        · have h8 : nI L - 5 = nI (L - 5) := pk_sub (a := L) (b := 5) h9
          rw [h8]
          exact nI_lt (by omega) (by omega)) z9)
      exact hE n (5 * n) hI.2 LL jj uu ii vv hI H locs hP hD hS ls hl
