-- The law (2): its sixteen cases: printed by wip/whole/gen/lw2.py
/-- the law goes on from pc, with n calls done and i in its local -/
def LNx (p : Program) (l : Launch) (e : Env) (s : State) (m : MethodId) (below : List Frame) (meth : Method) (c : Code) (D : va_G) (cI cT cP : ClassId) (b h r : Nat) (ft : Nat → Option Nat) (a : Nat → Nat) (h2 r2 : Nat) (ft2 : Nat → Option Nat) (g : Nat → Nat) (Q : State → Prop) (n i pc : Nat) : Prop := ∀ (LL : Nat → List (Int32 × Int32)) (jj : Nat → Nat) (uu : Nat → TB) (ii : Nat → Nat) (vv : Nat → PB), LI n LL jj uu ii vv → ∀ (H : Heap) (locs : List Loc), va_P D cls (HW cI cT h r ft a jj uu ++ MW cI cP h2 r2 ft2 g ii vv) H → va_D (fun q : Nat => s.heap.size ≤ q) (HW cI cT h r ft a jj uu ++ MW cI cP h2 r2 ft2 g ii vv) → va_S (fun q : Nat => s.heap.size ≤ q) s.heap H locs → ∀ ls : Array Slot, lv_has ls 4 [(0, .ref b), (1, .ref h), (2, .ref h2), (3, .int (nI i))] → W p l e room_1 s m #[Value.ref b] below meth c H locs (43 + cA_ jj + cR ii) (596 + sA_ jj + sR ii) Q (F0 m pc ls [])
set_option maxRecDepth 100000 in
set_option maxHeartbeats 4000000 in
/-- put -/
theorem cs_0 {L : Nat} {xs : Nat → Int32} (p : Program) (l : Launch) (e : Env) (s : State) (m : MethodId) (below : List Frame) (meth : Method) (c : Code) (D : va_G) (cI cT cP : ClassId) (b h r : Nat) (ft : Nat → Option Nat) (a : Nat → Nat) (h2 r2 : Nat) (ft2 : Nat → Option Nat) (g : Nat → Nat) (Q : State → Prop) (hx : p.tables.exec = Jvm.exec) (hb : c.code = code) (hml : c.maxLocals = 4) (hown : s.vm.findClass "HashHallLaw" = some m.cls) (hts : ∀ w ∈ al, w.before #[Value.ref b] s = true) (hX : va_X b L xs s s.heap) (hbl : b < s.heap.size) (hK : va_K D cls (ty3 cI cT cP) s) (hft : ∀ k, k < 3 → ft k = some (a k)) (hft2 : ∀ k, k < 3 → ft2 k = some (g k)) (hL : L ≤ 2560) (n : Nat) (hn5 : 5 * n + 5 ≤ L) (hN : LNx p l e s m below meth c D cI cT cP b h r ft a h2 r2 ft2 g Q (n + 1) (5 * n) 707) : LNx p l e s m below meth c D cI cT cP b h r ft a h2 r2 ft2 g Q n (5 * n) 112 := by
  intro LL jj uu ii vv hI H locs hP hD hS ls hl
  have hA : ∀ q : Nat, s.heap.size ≤ q → (fun q : Nat => s.heap.size ≤ q) q := fun _ h => h
  have hbA : ¬ (fun q : Nat => s.heap.size ≤ q) b := Nat.not_le.mpr hbl
  have hc1 := c_7 (jj := jj) (fun k hk => tl_7 (hI.1 k hk).1)
  have hc2 := c_7 (jj := ii) (fun k hk => pl_7 (hI.1 k hk).2.1)
  have hrc : 1000 ≤ room_1.cells := by decide
  have hrs : 400000 ≤ room_1.slots := by decide
  have hn1 : n + 1 ≤ 512 := by omega
  rcases bad_or (xs (5 * n + 1)) with hq | ⟨km, hkm, e1⟩
  · refine lv_aload_n hx hb d_lw_112 rfl (lv_at hl 1 rfl) ?_
    refine lv_aload_n hx hb d_lw_113 rfl (lv_at hl 0 rfl) ?_
    refine lv_iload_n hx hb d_lw_114 rfl (lv_at hl 3 rfl) ?_
    refine lv_iconst (v := 1) hx hb d_lw_115 (by decide) ?_
    refine lv_iadd hx hb d_lw_116 ?_
    refine tp_i (y := nI (5 * n + 1)) (nI_add (5 * n) 1) ?_
    refine wa_sld (k := 5 * n + 1) hx hb hX hbl hbA hS (by omega) (by omega) d_lw_117 ?_
    refine lv_aload_n hx hb d_lw_118 rfl (lv_at hl 0 rfl) ?_
    refine lv_iload_n hx hb d_lw_119 rfl (lv_at hl 3 rfl) ?_
    refine lv_iconst (v := 2) hx hb d_lw_120 (by decide) ?_
    refine lv_iadd hx hb d_lw_121 ?_
    refine tp_i (y := nI (5 * n + 2)) (nI_add (5 * n) 2) ?_
    refine wa_sld (k := 5 * n + 2) hx hb hX hbl hbA hS (by omega) (by omega) d_lw_122 ?_
    refine lv_aload_n hx hb d_lw_123 rfl (lv_at hl 0 rfl) ?_
    refine lv_iload_n hx hb d_lw_124 rfl (lv_at hl 3 rfl) ?_
    refine lv_iconst (v := 3) hx hb d_lw_125 (by decide) ?_
    refine lv_iadd hx hb d_lw_126 ?_
    refine tp_i (y := nI (5 * n + 3)) (nI_add (5 * n) 3) ?_
    refine wa_sld (k := 5 * n + 3) hx hb hX hbl hbA hS (by omega) (by omega) d_lw_127 ?_
    refine hh_V0 (hn := 3) (As := [.int (xs (5 * n + 1)), .int (xs (5 * n + 2)), .int (xs (5 * n + 3))]) (rest := [])  hx hb hml hown hts  (c_hh_put_x l D cI cT cP h r (xs (5 * n + 1)) hq (xs (5 * n + 2)) (xs (5 * n + 3))) km_lw_13 ki_hh_put ks_hh_put kn_hh kc_hh_put (by decide +kernel) rfl ⟨Nat.le_of_ble_eq_true rfl, Nat.le_of_ble_eq_true rfl⟩ hK hP hD hS hA hl.1 rfl (Nat.le_of_ble_eq_true rfl) d_lw_128 ⟨by omega, by omega⟩ (fun v u H locs hpost hP hD hS => ?_)
    subst hpost
    refine W.eq (g2 := F0 m 131 ls [.long 1099511627777]) rfl ?_
    refine lv_aload_n hx hb d_lw_131 rfl (lv_at hl 2 rfl) ?_
    refine lv_aload_n hx hb d_lw_132 rfl (lv_at hl 0 rfl) ?_
    refine lv_iload_n hx hb d_lw_133 rfl (lv_at hl 3 rfl) ?_
    refine lv_iconst (v := 1) hx hb d_lw_134 (by decide) ?_
    refine lv_iadd hx hb d_lw_135 ?_
    refine tp_i (y := nI (5 * n + 1)) (nI_add (5 * n) 1) ?_
    refine wa_sld (k := 5 * n + 1) hx hb hX hbl hbA hS (by omega) (by omega) d_lw_136 ?_
    refine lv_aload_n hx hb d_lw_137 rfl (lv_at hl 0 rfl) ?_
    refine lv_iload_n hx hb d_lw_138 rfl (lv_at hl 3 rfl) ?_
    refine lv_iconst (v := 2) hx hb d_lw_139 (by decide) ?_
    refine lv_iadd hx hb d_lw_140 ?_
    refine tp_i (y := nI (5 * n + 2)) (nI_add (5 * n) 2) ?_
    refine wa_sld (k := 5 * n + 2) hx hb hX hbl hbA hS (by omega) (by omega) d_lw_141 ?_
    refine lv_aload_n hx hb d_lw_142 rfl (lv_at hl 0 rfl) ?_
    refine lv_iload_n hx hb d_lw_143 rfl (lv_at hl 3 rfl) ?_
    refine lv_iconst (v := 3) hx hb d_lw_144 (by decide) ?_
    refine lv_iadd hx hb d_lw_145 ?_
    refine tp_i (y := nI (5 * n + 3)) (nI_add (5 * n) 3) ?_
    refine wa_sld (k := 5 * n + 3) hx hb hX hbl hbA hS (by omega) (by omega) d_lw_146 ?_
    refine md_V0 (hn := 3) (As := [.int (xs (5 * n + 1)), .int (xs (5 * n + 2)), .int (xs (5 * n + 3))]) (rest := [.long 1099511627777])  hx hb hml hown hts  (c_md_put_x l D cI cT cP h2 r2 (xs (5 * n + 1)) hq (xs (5 * n + 2)) (xs (5 * n + 3))) km_lw_17 ki_md_put ks_md_put kn_md kc_md_put (by decide +kernel) rfl ⟨Nat.le_of_ble_eq_true rfl, Nat.le_of_ble_eq_true rfl⟩ hK hP hD hS hA hl.1 rfl (Nat.le_of_ble_eq_true rfl) d_lw_147 ⟨by omega, by omega⟩ (fun v u H locs hpost hP hD hS => ?_)
    subst hpost
    refine W.eq (g2 := F0 m 150 ls [.long 1099511627777, .long 1099511627777]) rfl ?_
    refine W.lcmp hx hb d_lw_150 ?_
    refine lv_if_eq (tgt := 707) hx hb d_lw_151 (by decide) (fun _ => ?_) (fun z9 => absurd (lg_eq.mpr rfl) z9)
    refine W.widen (k := 43 + cA_ jj + cR ii) (n := 596 + sA_ jj + sR ii) (by omega) (by omega) ?_
    exact hN _ _ _ _ _ (li_mono hI hn1) _ _ hP hD hS ls hl
  · have hlen : (LL km).length < 2047 := by have := (hI.1 km hkm).2.2; omega
    have hjA := njs_le (jj km) (xs (5 * n + 2)) (LL km)
    have hiA := njrs_le (ii km) (xs (5 * n + 2)) (LL km)
    have hm1 := mT_7 (a := jj km) (njs_7 (k := (xs (5 * n + 2))) (L := LL km) (tl_7 (hI.1 km hkm).1) hlen)
    have hm2 := mT_7 (a := ii km) (njrs_7 (k := (xs (5 * n + 2))) (L := LL km) (pl_7 (hI.1 km hkm).2.1) hlen)
    have hu1 := cA_up hkm hjA
    have hu2 := sA_up hkm hjA
    have hu3 := cR_up hkm hiA
    have hu4 := sR_up hkm hiA
    refine lv_aload_n hx hb d_lw_112 rfl (lv_at hl 1 rfl) ?_
    refine lv_aload_n hx hb d_lw_113 rfl (lv_at hl 0 rfl) ?_
    refine lv_iload_n hx hb d_lw_114 rfl (lv_at hl 3 rfl) ?_
    refine lv_iconst (v := 1) hx hb d_lw_115 (by decide) ?_
    refine lv_iadd hx hb d_lw_116 ?_
    refine tp_i (y := nI (5 * n + 1)) (nI_add (5 * n) 1) ?_
    refine wa_sld (k := 5 * n + 1) hx hb hX hbl hbA hS (by omega) (by omega) d_lw_117 ?_
    refine tp_i (y := nI km) e1 ?_
    refine lv_aload_n hx hb d_lw_118 rfl (lv_at hl 0 rfl) ?_
    refine lv_iload_n hx hb d_lw_119 rfl (lv_at hl 3 rfl) ?_
    refine lv_iconst (v := 2) hx hb d_lw_120 (by decide) ?_
    refine lv_iadd hx hb d_lw_121 ?_
    refine tp_i (y := nI (5 * n + 2)) (nI_add (5 * n) 2) ?_
    refine wa_sld (k := 5 * n + 2) hx hb hX hbl hbA hS (by omega) (by omega) d_lw_122 ?_
    refine lv_aload_n hx hb d_lw_123 rfl (lv_at hl 0 rfl) ?_
    refine lv_iload_n hx hb d_lw_124 rfl (lv_at hl 3 rfl) ?_
    refine lv_iconst (v := 3) hx hb d_lw_125 (by decide) ?_
    refine lv_iadd hx hb d_lw_126 ?_
    refine tp_i (y := nI (5 * n + 3)) (nI_add (5 * n) 3) ?_
    refine wa_sld (k := 5 * n + 3) hx hb hX hbl hbA hS (by omega) (by omega) d_lw_127 ?_
    refine hh_V (hn := 3) (As := [.int (nI km), .int (xs (5 * n + 2)), .int (xs (5 * n + 3))]) (rest := []) (k := km) (jn := njs (jj km) (xs (5 * n + 2)) (LL km)) (gu := fun u => u) hx hb hml hown hts hkm (c_hh_put l D cI cT cP h r ft km hkm (a km) (hft km hkm) (decide (km = 2)) (jj km) (LL km) (uu km) (hI.1 km hkm).1 (xs (5 * n + 2)) (xs (5 * n + 3)) hlen) km_lw_13 ki_hh_put ks_hh_put kn_hh kc_hh_put (by decide +kernel) rfl ⟨Nat.le_of_ble_eq_true rfl, Nat.le_of_ble_eq_true rfl⟩ hK hP hD hS hA hl.1 rfl (Nat.le_of_ble_eq_true rfl) d_lw_128 ⟨by omega, by omega⟩ (fun v u9 H locs hpost hP hD hS => ?_)
    obtain ⟨e9, hT9⟩ := hpost
    subst e9
    refine W.eq (g2 := F0 m 131 ls [.long (an (lk (xs (5 * n + 2)) (LL km)))]) rfl ?_
    refine lv_aload_n hx hb d_lw_131 rfl (lv_at hl 2 rfl) ?_
    refine lv_aload_n hx hb d_lw_132 rfl (lv_at hl 0 rfl) ?_
    refine lv_iload_n hx hb d_lw_133 rfl (lv_at hl 3 rfl) ?_
    refine lv_iconst (v := 1) hx hb d_lw_134 (by decide) ?_
    refine lv_iadd hx hb d_lw_135 ?_
    refine tp_i (y := nI (5 * n + 1)) (nI_add (5 * n) 1) ?_
    refine wa_sld (k := 5 * n + 1) hx hb hX hbl hbA hS (by omega) (by omega) d_lw_136 ?_
    refine tp_i (y := nI km) e1 ?_
    refine lv_aload_n hx hb d_lw_137 rfl (lv_at hl 0 rfl) ?_
    refine lv_iload_n hx hb d_lw_138 rfl (lv_at hl 3 rfl) ?_
    refine lv_iconst (v := 2) hx hb d_lw_139 (by decide) ?_
    refine lv_iadd hx hb d_lw_140 ?_
    refine tp_i (y := nI (5 * n + 2)) (nI_add (5 * n) 2) ?_
    refine wa_sld (k := 5 * n + 2) hx hb hX hbl hbA hS (by omega) (by omega) d_lw_141 ?_
    refine lv_aload_n hx hb d_lw_142 rfl (lv_at hl 0 rfl) ?_
    refine lv_iload_n hx hb d_lw_143 rfl (lv_at hl 3 rfl) ?_
    refine lv_iconst (v := 3) hx hb d_lw_144 (by decide) ?_
    refine lv_iadd hx hb d_lw_145 ?_
    refine tp_i (y := nI (5 * n + 3)) (nI_add (5 * n) 3) ?_
    refine wa_sld (k := 5 * n + 3) hx hb hX hbl hbA hS (by omega) (by omega) d_lw_146 ?_
    refine md_V (hn := 3) (As := [.int (nI km), .int (xs (5 * n + 2)), .int (xs (5 * n + 3))]) (rest := [.long (an (lk (xs (5 * n + 2)) (LL km)))]) (k := km) (jn := njrs (ii km) (xs (5 * n + 2)) (LL km)) (gu := fun u => u) hx hb hml hown hts hkm (c_md_put l D cI cT cP h2 r2 ft2 km hkm (g km) (hft2 km hkm) (ii km) (LL km) (vv km) (hI.1 km hkm).2.1 (xs (5 * n + 2)) (xs (5 * n + 3)) hlen) km_lw_17 ki_md_put ks_md_put kn_md kc_md_put (by decide +kernel) rfl ⟨Nat.le_of_ble_eq_true rfl, Nat.le_of_ble_eq_true rfl⟩ hK hP hD hS hA hl.1 rfl (Nat.le_of_ble_eq_true rfl) d_lw_147 ⟨by omega, by omega⟩ (fun v v9 H locs hpost hP hD hS => ?_)
    obtain ⟨e9, hP9⟩ := hpost
    subst e9
    refine W.eq (g2 := F0 m 150 ls [.long (an (lk (xs (5 * n + 2)) (LL km))), .long (an (lk (xs (5 * n + 2)) (LL km)))]) rfl ?_
    refine W.lcmp hx hb d_lw_150 ?_
    refine lv_if_eq (tgt := 707) hx hb d_lw_151 (by decide) (fun _ => ?_) (fun z9 => absurd (lg_eq.mpr rfl) z9)
    refine W.widen (k := 43 + cA_ (va_up jj km (njs (jj km) (xs (5 * n + 2)) (LL km))) + cR (va_up ii km (njrs (ii km) (xs (5 * n + 2)) (LL km)))) (n := 596 + sA_ (va_up jj km (njs (jj km) (xs (5 * n + 2)) (LL km))) + sR (va_up ii km (njrs (ii km) (xs (5 * n + 2)) (LL km)))) (by omega) (by omega) ?_
    exact hN _ _ _ _ _ (li_up hI hn1 km hT9 hP9 (Nat.le_trans st_len (by have := (hI.1 km hkm).2.2; omega))) _ _ hP hD hS ls hl
set_option maxRecDepth 100000 in
set_option maxHeartbeats 4000000 in
/-- add -/
theorem cs_1 {L : Nat} {xs : Nat → Int32} (p : Program) (l : Launch) (e : Env) (s : State) (m : MethodId) (below : List Frame) (meth : Method) (c : Code) (D : va_G) (cI cT cP : ClassId) (b h r : Nat) (ft : Nat → Option Nat) (a : Nat → Nat) (h2 r2 : Nat) (ft2 : Nat → Option Nat) (g : Nat → Nat) (Q : State → Prop) (hx : p.tables.exec = Jvm.exec) (hb : c.code = code) (hml : c.maxLocals = 4) (hown : s.vm.findClass "HashHallLaw" = some m.cls) (hts : ∀ w ∈ al, w.before #[Value.ref b] s = true) (hX : va_X b L xs s s.heap) (hbl : b < s.heap.size) (hK : va_K D cls (ty3 cI cT cP) s) (hft : ∀ k, k < 3 → ft k = some (a k)) (hft2 : ∀ k, k < 3 → ft2 k = some (g k)) (hL : L ≤ 2560) (n : Nat) (hn5 : 5 * n + 5 ≤ L) (hN : LNx p l e s m below meth c D cI cT cP b h r ft a h2 r2 ft2 g Q (n + 1) (5 * n) 707) : LNx p l e s m below meth c D cI cT cP b h r ft a h2 r2 ft2 g Q n (5 * n) 156 := by
  intro LL jj uu ii vv hI H locs hP hD hS ls hl
  have hA : ∀ q : Nat, s.heap.size ≤ q → (fun q : Nat => s.heap.size ≤ q) q := fun _ h => h
  have hbA : ¬ (fun q : Nat => s.heap.size ≤ q) b := Nat.not_le.mpr hbl
  have hc1 := c_7 (jj := jj) (fun k hk => tl_7 (hI.1 k hk).1)
  have hc2 := c_7 (jj := ii) (fun k hk => pl_7 (hI.1 k hk).2.1)
  have hrc : 1000 ≤ room_1.cells := by decide
  have hrs : 400000 ≤ room_1.slots := by decide
  have hn1 : n + 1 ≤ 512 := by omega
  rcases bad_or (xs (5 * n + 1)) with hq | ⟨km, hkm, e1⟩
  · refine lv_aload_n hx hb d_lw_156 rfl (lv_at hl 1 rfl) ?_
    refine lv_aload_n hx hb d_lw_157 rfl (lv_at hl 0 rfl) ?_
    refine lv_iload_n hx hb d_lw_158 rfl (lv_at hl 3 rfl) ?_
    refine lv_iconst (v := 1) hx hb d_lw_159 (by decide) ?_
    refine lv_iadd hx hb d_lw_160 ?_
    refine tp_i (y := nI (5 * n + 1)) (nI_add (5 * n) 1) ?_
    refine wa_sld (k := 5 * n + 1) hx hb hX hbl hbA hS (by omega) (by omega) d_lw_161 ?_
    refine lv_aload_n hx hb d_lw_162 rfl (lv_at hl 0 rfl) ?_
    refine lv_iload_n hx hb d_lw_163 rfl (lv_at hl 3 rfl) ?_
    refine lv_iconst (v := 2) hx hb d_lw_164 (by decide) ?_
    refine lv_iadd hx hb d_lw_165 ?_
    refine tp_i (y := nI (5 * n + 2)) (nI_add (5 * n) 2) ?_
    refine wa_sld (k := 5 * n + 2) hx hb hX hbl hbA hS (by omega) (by omega) d_lw_166 ?_
    refine lv_aload_n hx hb d_lw_167 rfl (lv_at hl 0 rfl) ?_
    refine lv_iload_n hx hb d_lw_168 rfl (lv_at hl 3 rfl) ?_
    refine lv_iconst (v := 3) hx hb d_lw_169 (by decide) ?_
    refine lv_iadd hx hb d_lw_170 ?_
    refine tp_i (y := nI (5 * n + 3)) (nI_add (5 * n) 3) ?_
    refine wa_sld (k := 5 * n + 3) hx hb hX hbl hbA hS (by omega) (by omega) d_lw_171 ?_
    refine hh_V0 (hn := 3) (As := [.int (xs (5 * n + 1)), .int (xs (5 * n + 2)), .int (xs (5 * n + 3))]) (rest := [])  hx hb hml hown hts  (c_hh_add_x l D cI cT cP h r (xs (5 * n + 1)) hq (xs (5 * n + 2)) (xs (5 * n + 3))) km_lw_18 ki_hh_add ks_hh_add kn_hh kc_hh_add (by decide +kernel) rfl ⟨Nat.le_of_ble_eq_true rfl, Nat.le_of_ble_eq_true rfl⟩ hK hP hD hS hA hl.1 rfl (Nat.le_of_ble_eq_true rfl) d_lw_172 ⟨by omega, by omega⟩ (fun v u H locs hpost hP hD hS => ?_)
    subst hpost
    refine W.eq (g2 := F0 m 175 ls [.long 1099511627777]) rfl ?_
    refine lv_aload_n hx hb d_lw_175 rfl (lv_at hl 2 rfl) ?_
    refine lv_aload_n hx hb d_lw_176 rfl (lv_at hl 0 rfl) ?_
    refine lv_iload_n hx hb d_lw_177 rfl (lv_at hl 3 rfl) ?_
    refine lv_iconst (v := 1) hx hb d_lw_178 (by decide) ?_
    refine lv_iadd hx hb d_lw_179 ?_
    refine tp_i (y := nI (5 * n + 1)) (nI_add (5 * n) 1) ?_
    refine wa_sld (k := 5 * n + 1) hx hb hX hbl hbA hS (by omega) (by omega) d_lw_180 ?_
    refine lv_aload_n hx hb d_lw_181 rfl (lv_at hl 0 rfl) ?_
    refine lv_iload_n hx hb d_lw_182 rfl (lv_at hl 3 rfl) ?_
    refine lv_iconst (v := 2) hx hb d_lw_183 (by decide) ?_
    refine lv_iadd hx hb d_lw_184 ?_
    refine tp_i (y := nI (5 * n + 2)) (nI_add (5 * n) 2) ?_
    refine wa_sld (k := 5 * n + 2) hx hb hX hbl hbA hS (by omega) (by omega) d_lw_185 ?_
    refine lv_aload_n hx hb d_lw_186 rfl (lv_at hl 0 rfl) ?_
    refine lv_iload_n hx hb d_lw_187 rfl (lv_at hl 3 rfl) ?_
    refine lv_iconst (v := 3) hx hb d_lw_188 (by decide) ?_
    refine lv_iadd hx hb d_lw_189 ?_
    refine tp_i (y := nI (5 * n + 3)) (nI_add (5 * n) 3) ?_
    refine wa_sld (k := 5 * n + 3) hx hb hX hbl hbA hS (by omega) (by omega) d_lw_190 ?_
    refine md_V0 (hn := 3) (As := [.int (xs (5 * n + 1)), .int (xs (5 * n + 2)), .int (xs (5 * n + 3))]) (rest := [.long 1099511627777])  hx hb hml hown hts  (c_md_add_x l D cI cT cP h2 r2 (xs (5 * n + 1)) hq (xs (5 * n + 2)) (xs (5 * n + 3))) km_lw_21 ki_md_add ks_md_add kn_md kc_md_add (by decide +kernel) rfl ⟨Nat.le_of_ble_eq_true rfl, Nat.le_of_ble_eq_true rfl⟩ hK hP hD hS hA hl.1 rfl (Nat.le_of_ble_eq_true rfl) d_lw_191 ⟨by omega, by omega⟩ (fun v u H locs hpost hP hD hS => ?_)
    subst hpost
    refine W.eq (g2 := F0 m 194 ls [.long 1099511627777, .long 1099511627777]) rfl ?_
    refine W.lcmp hx hb d_lw_194 ?_
    refine lv_if_eq (tgt := 707) hx hb d_lw_195 (by decide) (fun _ => ?_) (fun z9 => absurd (lg_eq.mpr rfl) z9)
    refine W.widen (k := 43 + cA_ jj + cR ii) (n := 596 + sA_ jj + sR ii) (by omega) (by omega) ?_
    exact hN _ _ _ _ _ (li_mono hI hn1) _ _ hP hD hS ls hl
  · have hlen : (LL km).length < 2047 := by have := (hI.1 km hkm).2.2; omega
    have hjA := njs_le (jj km) (xs (5 * n + 2)) (LL km)
    have hiA := njrs_le (ii km) (xs (5 * n + 2)) (LL km)
    have hm1 := mT_7 (a := jj km) (njs_7 (k := (xs (5 * n + 2))) (L := LL km) (tl_7 (hI.1 km hkm).1) hlen)
    have hm2 := mT_7 (a := ii km) (njrs_7 (k := (xs (5 * n + 2))) (L := LL km) (pl_7 (hI.1 km hkm).2.1) hlen)
    have hu1 := cA_up hkm hjA
    have hu2 := sA_up hkm hjA
    have hu3 := cR_up hkm hiA
    have hu4 := sR_up hkm hiA
    refine lv_aload_n hx hb d_lw_156 rfl (lv_at hl 1 rfl) ?_
    refine lv_aload_n hx hb d_lw_157 rfl (lv_at hl 0 rfl) ?_
    refine lv_iload_n hx hb d_lw_158 rfl (lv_at hl 3 rfl) ?_
    refine lv_iconst (v := 1) hx hb d_lw_159 (by decide) ?_
    refine lv_iadd hx hb d_lw_160 ?_
    refine tp_i (y := nI (5 * n + 1)) (nI_add (5 * n) 1) ?_
    refine wa_sld (k := 5 * n + 1) hx hb hX hbl hbA hS (by omega) (by omega) d_lw_161 ?_
    refine tp_i (y := nI km) e1 ?_
    refine lv_aload_n hx hb d_lw_162 rfl (lv_at hl 0 rfl) ?_
    refine lv_iload_n hx hb d_lw_163 rfl (lv_at hl 3 rfl) ?_
    refine lv_iconst (v := 2) hx hb d_lw_164 (by decide) ?_
    refine lv_iadd hx hb d_lw_165 ?_
    refine tp_i (y := nI (5 * n + 2)) (nI_add (5 * n) 2) ?_
    refine wa_sld (k := 5 * n + 2) hx hb hX hbl hbA hS (by omega) (by omega) d_lw_166 ?_
    refine lv_aload_n hx hb d_lw_167 rfl (lv_at hl 0 rfl) ?_
    refine lv_iload_n hx hb d_lw_168 rfl (lv_at hl 3 rfl) ?_
    refine lv_iconst (v := 3) hx hb d_lw_169 (by decide) ?_
    refine lv_iadd hx hb d_lw_170 ?_
    refine tp_i (y := nI (5 * n + 3)) (nI_add (5 * n) 3) ?_
    refine wa_sld (k := 5 * n + 3) hx hb hX hbl hbA hS (by omega) (by omega) d_lw_171 ?_
    refine hh_V (hn := 3) (As := [.int (nI km), .int (xs (5 * n + 2)), .int (xs (5 * n + 3))]) (rest := []) (k := km) (jn := njs (jj km) (xs (5 * n + 2)) (LL km)) (gu := fun u => u) hx hb hml hown hts hkm (c_hh_add l D cI cT cP h r ft km hkm (a km) (hft km hkm) (decide (km = 2)) (jj km) (LL km) (uu km) (hI.1 km hkm).1 (xs (5 * n + 2)) (xs (5 * n + 3)) hlen) km_lw_18 ki_hh_add ks_hh_add kn_hh kc_hh_add (by decide +kernel) rfl ⟨Nat.le_of_ble_eq_true rfl, Nat.le_of_ble_eq_true rfl⟩ hK hP hD hS hA hl.1 rfl (Nat.le_of_ble_eq_true rfl) d_lw_172 ⟨by omega, by omega⟩ (fun v u9 H locs hpost hP hD hS => ?_)
    obtain ⟨e9, hT9⟩ := hpost
    subst e9
    refine W.eq (g2 := F0 m 175 ls [.long (an (lk (xs (5 * n + 2)) (LL km)))]) rfl ?_
    refine lv_aload_n hx hb d_lw_175 rfl (lv_at hl 2 rfl) ?_
    refine lv_aload_n hx hb d_lw_176 rfl (lv_at hl 0 rfl) ?_
    refine lv_iload_n hx hb d_lw_177 rfl (lv_at hl 3 rfl) ?_
    refine lv_iconst (v := 1) hx hb d_lw_178 (by decide) ?_
    refine lv_iadd hx hb d_lw_179 ?_
    refine tp_i (y := nI (5 * n + 1)) (nI_add (5 * n) 1) ?_
    refine wa_sld (k := 5 * n + 1) hx hb hX hbl hbA hS (by omega) (by omega) d_lw_180 ?_
    refine tp_i (y := nI km) e1 ?_
    refine lv_aload_n hx hb d_lw_181 rfl (lv_at hl 0 rfl) ?_
    refine lv_iload_n hx hb d_lw_182 rfl (lv_at hl 3 rfl) ?_
    refine lv_iconst (v := 2) hx hb d_lw_183 (by decide) ?_
    refine lv_iadd hx hb d_lw_184 ?_
    refine tp_i (y := nI (5 * n + 2)) (nI_add (5 * n) 2) ?_
    refine wa_sld (k := 5 * n + 2) hx hb hX hbl hbA hS (by omega) (by omega) d_lw_185 ?_
    refine lv_aload_n hx hb d_lw_186 rfl (lv_at hl 0 rfl) ?_
    refine lv_iload_n hx hb d_lw_187 rfl (lv_at hl 3 rfl) ?_
    refine lv_iconst (v := 3) hx hb d_lw_188 (by decide) ?_
    refine lv_iadd hx hb d_lw_189 ?_
    refine tp_i (y := nI (5 * n + 3)) (nI_add (5 * n) 3) ?_
    refine wa_sld (k := 5 * n + 3) hx hb hX hbl hbA hS (by omega) (by omega) d_lw_190 ?_
    refine md_V (hn := 3) (As := [.int (nI km), .int (xs (5 * n + 2)), .int (xs (5 * n + 3))]) (rest := [.long (an (lk (xs (5 * n + 2)) (LL km)))]) (k := km) (jn := njrs (ii km) (xs (5 * n + 2)) (LL km)) (gu := fun u => u) hx hb hml hown hts hkm (c_md_add l D cI cT cP h2 r2 ft2 km hkm (g km) (hft2 km hkm) (ii km) (LL km) (vv km) (hI.1 km hkm).2.1 (xs (5 * n + 2)) (xs (5 * n + 3)) hlen) km_lw_21 ki_md_add ks_md_add kn_md kc_md_add (by decide +kernel) rfl ⟨Nat.le_of_ble_eq_true rfl, Nat.le_of_ble_eq_true rfl⟩ hK hP hD hS hA hl.1 rfl (Nat.le_of_ble_eq_true rfl) d_lw_191 ⟨by omega, by omega⟩ (fun v v9 H locs hpost hP hD hS => ?_)
    obtain ⟨e9, hP9⟩ := hpost
    subst e9
    refine W.eq (g2 := F0 m 194 ls [.long (an (lk (xs (5 * n + 2)) (LL km))), .long (an (lk (xs (5 * n + 2)) (LL km)))]) rfl ?_
    refine W.lcmp hx hb d_lw_194 ?_
    refine lv_if_eq (tgt := 707) hx hb d_lw_195 (by decide) (fun _ => ?_) (fun z9 => absurd (lg_eq.mpr rfl) z9)
    refine W.widen (k := 43 + cA_ (va_up jj km (njs (jj km) (xs (5 * n + 2)) (LL km))) + cR (va_up ii km (njrs (ii km) (xs (5 * n + 2)) (LL km)))) (n := 596 + sA_ (va_up jj km (njs (jj km) (xs (5 * n + 2)) (LL km))) + sR (va_up ii km (njrs (ii km) (xs (5 * n + 2)) (LL km)))) (by omega) (by omega) ?_
    exact hN _ _ _ _ _ (li_up hI hn1 km hT9 hP9 (Nat.le_trans ad_len (by have := (hI.1 km hkm).2.2; omega))) _ _ hP hD hS ls hl
set_option maxRecDepth 100000 in
set_option maxHeartbeats 4000000 in
/-- get -/
theorem cs_2 {L : Nat} {xs : Nat → Int32} (p : Program) (l : Launch) (e : Env) (s : State) (m : MethodId) (below : List Frame) (meth : Method) (c : Code) (D : va_G) (cI cT cP : ClassId) (b h r : Nat) (ft : Nat → Option Nat) (a : Nat → Nat) (h2 r2 : Nat) (ft2 : Nat → Option Nat) (g : Nat → Nat) (Q : State → Prop) (hx : p.tables.exec = Jvm.exec) (hb : c.code = code) (hml : c.maxLocals = 4) (hown : s.vm.findClass "HashHallLaw" = some m.cls) (hts : ∀ w ∈ al, w.before #[Value.ref b] s = true) (hX : va_X b L xs s s.heap) (hbl : b < s.heap.size) (hK : va_K D cls (ty3 cI cT cP) s) (hft : ∀ k, k < 3 → ft k = some (a k)) (hft2 : ∀ k, k < 3 → ft2 k = some (g k)) (hL : L ≤ 2560) (n : Nat) (hn5 : 5 * n + 5 ≤ L) (hN : LNx p l e s m below meth c D cI cT cP b h r ft a h2 r2 ft2 g Q (n + 1) (5 * n) 707) : LNx p l e s m below meth c D cI cT cP b h r ft a h2 r2 ft2 g Q n (5 * n) 200 := by
  intro LL jj uu ii vv hI H locs hP hD hS ls hl
  have hA : ∀ q : Nat, s.heap.size ≤ q → (fun q : Nat => s.heap.size ≤ q) q := fun _ h => h
  have hbA : ¬ (fun q : Nat => s.heap.size ≤ q) b := Nat.not_le.mpr hbl
  have hc1 := c_7 (jj := jj) (fun k hk => tl_7 (hI.1 k hk).1)
  have hc2 := c_7 (jj := ii) (fun k hk => pl_7 (hI.1 k hk).2.1)
  have hrc : 1000 ≤ room_1.cells := by decide
  have hrs : 400000 ≤ room_1.slots := by decide
  have hn1 : n + 1 ≤ 512 := by omega
  rcases bad_or (xs (5 * n + 1)) with hq | ⟨km, hkm, e1⟩
  · refine lv_aload_n hx hb d_lw_200 rfl (lv_at hl 1 rfl) ?_
    refine lv_aload_n hx hb d_lw_201 rfl (lv_at hl 0 rfl) ?_
    refine lv_iload_n hx hb d_lw_202 rfl (lv_at hl 3 rfl) ?_
    refine lv_iconst (v := 1) hx hb d_lw_203 (by decide) ?_
    refine lv_iadd hx hb d_lw_204 ?_
    refine tp_i (y := nI (5 * n + 1)) (nI_add (5 * n) 1) ?_
    refine wa_sld (k := 5 * n + 1) hx hb hX hbl hbA hS (by omega) (by omega) d_lw_205 ?_
    refine lv_aload_n hx hb d_lw_206 rfl (lv_at hl 0 rfl) ?_
    refine lv_iload_n hx hb d_lw_207 rfl (lv_at hl 3 rfl) ?_
    refine lv_iconst (v := 2) hx hb d_lw_208 (by decide) ?_
    refine lv_iadd hx hb d_lw_209 ?_
    refine tp_i (y := nI (5 * n + 2)) (nI_add (5 * n) 2) ?_
    refine wa_sld (k := 5 * n + 2) hx hb hX hbl hbA hS (by omega) (by omega) d_lw_210 ?_
    refine hh_V0 (hn := 2) (As := [.int (xs (5 * n + 1)), .int (xs (5 * n + 2))]) (rest := [])  hx hb hml hown hts  (c_hh_get_x l D cI cT cP h r (xs (5 * n + 1)) hq (xs (5 * n + 2))) km_lw_22 ki_hh_get ks_hh_get kn_hh kc_hh_get (by decide +kernel) rfl ⟨Nat.le_of_ble_eq_true rfl, Nat.le_of_ble_eq_true rfl⟩ hK hP hD hS hA hl.1 rfl (Nat.le_of_ble_eq_true rfl) d_lw_211 ⟨by omega, by omega⟩ (fun v u H locs hpost hP hD hS => ?_)
    subst hpost
    refine W.eq (g2 := F0 m 214 ls [.long 1099511627777]) rfl ?_
    refine lv_aload_n hx hb d_lw_214 rfl (lv_at hl 2 rfl) ?_
    refine lv_aload_n hx hb d_lw_215 rfl (lv_at hl 0 rfl) ?_
    refine lv_iload_n hx hb d_lw_216 rfl (lv_at hl 3 rfl) ?_
    refine lv_iconst (v := 1) hx hb d_lw_217 (by decide) ?_
    refine lv_iadd hx hb d_lw_218 ?_
    refine tp_i (y := nI (5 * n + 1)) (nI_add (5 * n) 1) ?_
    refine wa_sld (k := 5 * n + 1) hx hb hX hbl hbA hS (by omega) (by omega) d_lw_219 ?_
    refine lv_aload_n hx hb d_lw_220 rfl (lv_at hl 0 rfl) ?_
    refine lv_iload_n hx hb d_lw_221 rfl (lv_at hl 3 rfl) ?_
    refine lv_iconst (v := 2) hx hb d_lw_222 (by decide) ?_
    refine lv_iadd hx hb d_lw_223 ?_
    refine tp_i (y := nI (5 * n + 2)) (nI_add (5 * n) 2) ?_
    refine wa_sld (k := 5 * n + 2) hx hb hX hbl hbA hS (by omega) (by omega) d_lw_224 ?_
    refine md_V0 (hn := 2) (As := [.int (xs (5 * n + 1)), .int (xs (5 * n + 2))]) (rest := [.long 1099511627777])  hx hb hml hown hts  (c_md_get_x l D cI cT cP h2 r2 (xs (5 * n + 1)) hq (xs (5 * n + 2))) km_lw_26 ki_md_get ks_md_get kn_md kc_md_get (by decide +kernel) rfl ⟨Nat.le_of_ble_eq_true rfl, Nat.le_of_ble_eq_true rfl⟩ hK hP hD hS hA hl.1 rfl (Nat.le_of_ble_eq_true rfl) d_lw_225 ⟨by omega, by omega⟩ (fun v u H locs hpost hP hD hS => ?_)
    subst hpost
    refine W.eq (g2 := F0 m 228 ls [.long 1099511627777, .long 1099511627777]) rfl ?_
    refine W.lcmp hx hb d_lw_228 ?_
    refine lv_if_eq (tgt := 707) hx hb d_lw_229 (by decide) (fun _ => ?_) (fun z9 => absurd (lg_eq.mpr rfl) z9)
    refine W.widen (k := 43 + cA_ jj + cR ii) (n := 596 + sA_ jj + sR ii) (by omega) (by omega) ?_
    exact hN _ _ _ _ _ (li_mono hI hn1) _ _ hP hD hS ls hl
  · have hjA := Nat.le_refl (jj km)
    have hiA := Nat.le_refl (ii km)
    have hu1 := cA_up hkm hjA
    have hu2 := sA_up hkm hjA
    have hu3 := cR_up hkm hiA
    have hu4 := sR_up hkm hiA
    refine lv_aload_n hx hb d_lw_200 rfl (lv_at hl 1 rfl) ?_
    refine lv_aload_n hx hb d_lw_201 rfl (lv_at hl 0 rfl) ?_
    refine lv_iload_n hx hb d_lw_202 rfl (lv_at hl 3 rfl) ?_
    refine lv_iconst (v := 1) hx hb d_lw_203 (by decide) ?_
    refine lv_iadd hx hb d_lw_204 ?_
    refine tp_i (y := nI (5 * n + 1)) (nI_add (5 * n) 1) ?_
    refine wa_sld (k := 5 * n + 1) hx hb hX hbl hbA hS (by omega) (by omega) d_lw_205 ?_
    refine tp_i (y := nI km) e1 ?_
    refine lv_aload_n hx hb d_lw_206 rfl (lv_at hl 0 rfl) ?_
    refine lv_iload_n hx hb d_lw_207 rfl (lv_at hl 3 rfl) ?_
    refine lv_iconst (v := 2) hx hb d_lw_208 (by decide) ?_
    refine lv_iadd hx hb d_lw_209 ?_
    refine tp_i (y := nI (5 * n + 2)) (nI_add (5 * n) 2) ?_
    refine wa_sld (k := 5 * n + 2) hx hb hX hbl hbA hS (by omega) (by omega) d_lw_210 ?_
    refine hh_V (hn := 2) (As := [.int (nI km), .int (xs (5 * n + 2))]) (rest := []) (k := km) (jn := jj km) (gu := fun u => u) hx hb hml hown hts hkm (c_hh_get l D cI cT cP h r ft km hkm (a km) (hft km hkm) (decide (km = 2)) (jj km) (LL km) (uu km) (hI.1 km hkm).1 (xs (5 * n + 2))) km_lw_22 ki_hh_get ks_hh_get kn_hh kc_hh_get (by decide +kernel) rfl ⟨Nat.le_of_ble_eq_true rfl, Nat.le_of_ble_eq_true rfl⟩ hK hP hD hS hA hl.1 rfl (Nat.le_of_ble_eq_true rfl) d_lw_211 ⟨by omega, by omega⟩ (fun v u9 H locs hpost hP hD hS => ?_)
    obtain ⟨e9, hT9⟩ := hpost
    subst e9
    refine W.eq (g2 := F0 m 214 ls [.long (an (lk (xs (5 * n + 2)) (LL km)))]) rfl ?_
    refine lv_aload_n hx hb d_lw_214 rfl (lv_at hl 2 rfl) ?_
    refine lv_aload_n hx hb d_lw_215 rfl (lv_at hl 0 rfl) ?_
    refine lv_iload_n hx hb d_lw_216 rfl (lv_at hl 3 rfl) ?_
    refine lv_iconst (v := 1) hx hb d_lw_217 (by decide) ?_
    refine lv_iadd hx hb d_lw_218 ?_
    refine tp_i (y := nI (5 * n + 1)) (nI_add (5 * n) 1) ?_
    refine wa_sld (k := 5 * n + 1) hx hb hX hbl hbA hS (by omega) (by omega) d_lw_219 ?_
    refine tp_i (y := nI km) e1 ?_
    refine lv_aload_n hx hb d_lw_220 rfl (lv_at hl 0 rfl) ?_
    refine lv_iload_n hx hb d_lw_221 rfl (lv_at hl 3 rfl) ?_
    refine lv_iconst (v := 2) hx hb d_lw_222 (by decide) ?_
    refine lv_iadd hx hb d_lw_223 ?_
    refine tp_i (y := nI (5 * n + 2)) (nI_add (5 * n) 2) ?_
    refine wa_sld (k := 5 * n + 2) hx hb hX hbl hbA hS (by omega) (by omega) d_lw_224 ?_
    refine md_V (hn := 2) (As := [.int (nI km), .int (xs (5 * n + 2))]) (rest := [.long (an (lk (xs (5 * n + 2)) (LL km)))]) (k := km) (jn := ii km) (gu := fun u => u) hx hb hml hown hts hkm (c_md_get l D cI cT cP h2 r2 ft2 km hkm (g km) (hft2 km hkm) (ii km) (LL km) (vv km) (hI.1 km hkm).2.1 (xs (5 * n + 2))) km_lw_26 ki_md_get ks_md_get kn_md kc_md_get (by decide +kernel) rfl ⟨Nat.le_of_ble_eq_true rfl, Nat.le_of_ble_eq_true rfl⟩ hK hP hD hS hA hl.1 rfl (Nat.le_of_ble_eq_true rfl) d_lw_225 ⟨by omega, by omega⟩ (fun v v9 H locs hpost hP hD hS => ?_)
    obtain ⟨e9, hP9⟩ := hpost
    subst e9
    refine W.eq (g2 := F0 m 228 ls [.long (an (lk (xs (5 * n + 2)) (LL km))), .long (an (lk (xs (5 * n + 2)) (LL km)))]) rfl ?_
    refine W.lcmp hx hb d_lw_228 ?_
    refine lv_if_eq (tgt := 707) hx hb d_lw_229 (by decide) (fun _ => ?_) (fun z9 => absurd (lg_eq.mpr rfl) z9)
    refine W.widen (k := 43 + cA_ (va_up jj km (jj km)) + cR (va_up ii km (ii km))) (n := 596 + sA_ (va_up jj km (jj km)) + sR (va_up ii km (ii km))) (by omega) (by omega) ?_
    exact hN _ _ _ _ _ (li_up hI hn1 km hT9 hP9 (Nat.le_trans us_len (by have := (hI.1 km hkm).2.2; omega))) _ _ hP hD hS ls hl
set_option maxRecDepth 100000 in
set_option maxHeartbeats 4000000 in
/-- give -/
theorem cs_3 {L : Nat} {xs : Nat → Int32} (p : Program) (l : Launch) (e : Env) (s : State) (m : MethodId) (below : List Frame) (meth : Method) (c : Code) (D : va_G) (cI cT cP : ClassId) (b h r : Nat) (ft : Nat → Option Nat) (a : Nat → Nat) (h2 r2 : Nat) (ft2 : Nat → Option Nat) (g : Nat → Nat) (Q : State → Prop) (hx : p.tables.exec = Jvm.exec) (hb : c.code = code) (hml : c.maxLocals = 4) (hown : s.vm.findClass "HashHallLaw" = some m.cls) (hts : ∀ w ∈ al, w.before #[Value.ref b] s = true) (hX : va_X b L xs s s.heap) (hbl : b < s.heap.size) (hK : va_K D cls (ty3 cI cT cP) s) (hft : ∀ k, k < 3 → ft k = some (a k)) (hft2 : ∀ k, k < 3 → ft2 k = some (g k)) (hL : L ≤ 2560) (n : Nat) (hn5 : 5 * n + 5 ≤ L) (hN : LNx p l e s m below meth c D cI cT cP b h r ft a h2 r2 ft2 g Q (n + 1) (5 * n) 707) : LNx p l e s m below meth c D cI cT cP b h r ft a h2 r2 ft2 g Q n (5 * n) 234 := by
  intro LL jj uu ii vv hI H locs hP hD hS ls hl
  have hA : ∀ q : Nat, s.heap.size ≤ q → (fun q : Nat => s.heap.size ≤ q) q := fun _ h => h
  have hbA : ¬ (fun q : Nat => s.heap.size ≤ q) b := Nat.not_le.mpr hbl
  have hc1 := c_7 (jj := jj) (fun k hk => tl_7 (hI.1 k hk).1)
  have hc2 := c_7 (jj := ii) (fun k hk => pl_7 (hI.1 k hk).2.1)
  have hrc : 1000 ≤ room_1.cells := by decide
  have hrs : 400000 ≤ room_1.slots := by decide
  have hn1 : n + 1 ≤ 512 := by omega
  rcases bad_or (xs (5 * n + 1)) with hq | ⟨km, hkm, e1⟩
  · refine lv_aload_n hx hb d_lw_234 rfl (lv_at hl 1 rfl) ?_
    refine lv_aload_n hx hb d_lw_235 rfl (lv_at hl 0 rfl) ?_
    refine lv_iload_n hx hb d_lw_236 rfl (lv_at hl 3 rfl) ?_
    refine lv_iconst (v := 1) hx hb d_lw_237 (by decide) ?_
    refine lv_iadd hx hb d_lw_238 ?_
    refine tp_i (y := nI (5 * n + 1)) (nI_add (5 * n) 1) ?_
    refine wa_sld (k := 5 * n + 1) hx hb hX hbl hbA hS (by omega) (by omega) d_lw_239 ?_
    refine lv_aload_n hx hb d_lw_240 rfl (lv_at hl 0 rfl) ?_
    refine lv_iload_n hx hb d_lw_241 rfl (lv_at hl 3 rfl) ?_
    refine lv_iconst (v := 2) hx hb d_lw_242 (by decide) ?_
    refine lv_iadd hx hb d_lw_243 ?_
    refine tp_i (y := nI (5 * n + 2)) (nI_add (5 * n) 2) ?_
    refine wa_sld (k := 5 * n + 2) hx hb hX hbl hbA hS (by omega) (by omega) d_lw_244 ?_
    refine lv_aload_n hx hb d_lw_245 rfl (lv_at hl 0 rfl) ?_
    refine lv_iload_n hx hb d_lw_246 rfl (lv_at hl 3 rfl) ?_
    refine lv_iconst (v := 3) hx hb d_lw_247 (by decide) ?_
    refine lv_iadd hx hb d_lw_248 ?_
    refine tp_i (y := nI (5 * n + 3)) (nI_add (5 * n) 3) ?_
    refine wa_sld (k := 5 * n + 3) hx hb hX hbl hbA hS (by omega) (by omega) d_lw_249 ?_
    refine hh_V0 (hn := 3) (As := [.int (xs (5 * n + 1)), .int (xs (5 * n + 2)), .int (xs (5 * n + 3))]) (rest := [])  hx hb hml hown hts  (c_hh_give_x l D cI cT cP h r (xs (5 * n + 1)) hq (xs (5 * n + 2)) (xs (5 * n + 3))) km_lw_27 ki_hh_give ks_hh_give kn_hh kc_hh_give (by decide +kernel) rfl ⟨Nat.le_of_ble_eq_true rfl, Nat.le_of_ble_eq_true rfl⟩ hK hP hD hS hA hl.1 rfl (Nat.le_of_ble_eq_true rfl) d_lw_250 ⟨by omega, by omega⟩ (fun v u H locs hpost hP hD hS => ?_)
    subst hpost
    refine W.eq (g2 := F0 m 253 ls [.long 1099511627777]) rfl ?_
    refine lv_aload_n hx hb d_lw_253 rfl (lv_at hl 2 rfl) ?_
    refine lv_aload_n hx hb d_lw_254 rfl (lv_at hl 0 rfl) ?_
    refine lv_iload_n hx hb d_lw_255 rfl (lv_at hl 3 rfl) ?_
    refine lv_iconst (v := 1) hx hb d_lw_256 (by decide) ?_
    refine lv_iadd hx hb d_lw_257 ?_
    refine tp_i (y := nI (5 * n + 1)) (nI_add (5 * n) 1) ?_
    refine wa_sld (k := 5 * n + 1) hx hb hX hbl hbA hS (by omega) (by omega) d_lw_258 ?_
    refine lv_aload_n hx hb d_lw_259 rfl (lv_at hl 0 rfl) ?_
    refine lv_iload_n hx hb d_lw_260 rfl (lv_at hl 3 rfl) ?_
    refine lv_iconst (v := 2) hx hb d_lw_261 (by decide) ?_
    refine lv_iadd hx hb d_lw_262 ?_
    refine tp_i (y := nI (5 * n + 2)) (nI_add (5 * n) 2) ?_
    refine wa_sld (k := 5 * n + 2) hx hb hX hbl hbA hS (by omega) (by omega) d_lw_263 ?_
    refine lv_aload_n hx hb d_lw_264 rfl (lv_at hl 0 rfl) ?_
    refine lv_iload_n hx hb d_lw_265 rfl (lv_at hl 3 rfl) ?_
    refine lv_iconst (v := 3) hx hb d_lw_266 (by decide) ?_
    refine lv_iadd hx hb d_lw_267 ?_
    refine tp_i (y := nI (5 * n + 3)) (nI_add (5 * n) 3) ?_
    refine wa_sld (k := 5 * n + 3) hx hb hX hbl hbA hS (by omega) (by omega) d_lw_268 ?_
    refine md_V0 (hn := 3) (As := [.int (xs (5 * n + 1)), .int (xs (5 * n + 2)), .int (xs (5 * n + 3))]) (rest := [.long 1099511627777])  hx hb hml hown hts  (c_md_give_x l D cI cT cP h2 r2 (xs (5 * n + 1)) hq (xs (5 * n + 2)) (xs (5 * n + 3))) km_lw_30 ki_md_give ks_md_give kn_md kc_md_give (by decide +kernel) rfl ⟨Nat.le_of_ble_eq_true rfl, Nat.le_of_ble_eq_true rfl⟩ hK hP hD hS hA hl.1 rfl (Nat.le_of_ble_eq_true rfl) d_lw_269 ⟨by omega, by omega⟩ (fun v u H locs hpost hP hD hS => ?_)
    subst hpost
    refine W.eq (g2 := F0 m 272 ls [.long 1099511627777, .long 1099511627777]) rfl ?_
    refine W.lcmp hx hb d_lw_272 ?_
    refine lv_if_eq (tgt := 707) hx hb d_lw_273 (by decide) (fun _ => ?_) (fun z9 => absurd (lg_eq.mpr rfl) z9)
    refine W.widen (k := 43 + cA_ jj + cR ii) (n := 596 + sA_ jj + sR ii) (by omega) (by omega) ?_
    exact hN _ _ _ _ _ (li_mono hI hn1) _ _ hP hD hS ls hl
  · have hjA := Nat.le_refl (jj km)
    have hiA := Nat.le_refl (ii km)
    have hu1 := cA_up hkm hjA
    have hu2 := sA_up hkm hjA
    have hu3 := cR_up hkm hiA
    have hu4 := sR_up hkm hiA
    refine lv_aload_n hx hb d_lw_234 rfl (lv_at hl 1 rfl) ?_
    refine lv_aload_n hx hb d_lw_235 rfl (lv_at hl 0 rfl) ?_
    refine lv_iload_n hx hb d_lw_236 rfl (lv_at hl 3 rfl) ?_
    refine lv_iconst (v := 1) hx hb d_lw_237 (by decide) ?_
    refine lv_iadd hx hb d_lw_238 ?_
    refine tp_i (y := nI (5 * n + 1)) (nI_add (5 * n) 1) ?_
    refine wa_sld (k := 5 * n + 1) hx hb hX hbl hbA hS (by omega) (by omega) d_lw_239 ?_
    refine tp_i (y := nI km) e1 ?_
    refine lv_aload_n hx hb d_lw_240 rfl (lv_at hl 0 rfl) ?_
    refine lv_iload_n hx hb d_lw_241 rfl (lv_at hl 3 rfl) ?_
    refine lv_iconst (v := 2) hx hb d_lw_242 (by decide) ?_
    refine lv_iadd hx hb d_lw_243 ?_
    refine tp_i (y := nI (5 * n + 2)) (nI_add (5 * n) 2) ?_
    refine wa_sld (k := 5 * n + 2) hx hb hX hbl hbA hS (by omega) (by omega) d_lw_244 ?_
    refine lv_aload_n hx hb d_lw_245 rfl (lv_at hl 0 rfl) ?_
    refine lv_iload_n hx hb d_lw_246 rfl (lv_at hl 3 rfl) ?_
    refine lv_iconst (v := 3) hx hb d_lw_247 (by decide) ?_
    refine lv_iadd hx hb d_lw_248 ?_
    refine tp_i (y := nI (5 * n + 3)) (nI_add (5 * n) 3) ?_
    refine wa_sld (k := 5 * n + 3) hx hb hX hbl hbA hS (by omega) (by omega) d_lw_249 ?_
    refine hh_V (hn := 3) (As := [.int (nI km), .int (xs (5 * n + 2)), .int (xs (5 * n + 3))]) (rest := []) (k := km) (jn := jj km) (gu := fun u => u) hx hb hml hown hts hkm (c_hh_give l D cI cT cP h r ft km hkm (a km) (hft km hkm) (decide (km = 2)) (jj km) (LL km) (uu km) (hI.1 km hkm).1 (xs (5 * n + 2)) (xs (5 * n + 3))) km_lw_27 ki_hh_give ks_hh_give kn_hh kc_hh_give (by decide +kernel) rfl ⟨Nat.le_of_ble_eq_true rfl, Nat.le_of_ble_eq_true rfl⟩ hK hP hD hS hA hl.1 rfl (Nat.le_of_ble_eq_true rfl) d_lw_250 ⟨by omega, by omega⟩ (fun v u9 H locs hpost hP hD hS => ?_)
    obtain ⟨e9, hT9⟩ := hpost
    subst e9
    refine W.eq (g2 := F0 m 253 ls [.long (gv (xs (5 * n + 3)) (lk (xs (5 * n + 2)) (LL km)))]) rfl ?_
    refine lv_aload_n hx hb d_lw_253 rfl (lv_at hl 2 rfl) ?_
    refine lv_aload_n hx hb d_lw_254 rfl (lv_at hl 0 rfl) ?_
    refine lv_iload_n hx hb d_lw_255 rfl (lv_at hl 3 rfl) ?_
    refine lv_iconst (v := 1) hx hb d_lw_256 (by decide) ?_
    refine lv_iadd hx hb d_lw_257 ?_
    refine tp_i (y := nI (5 * n + 1)) (nI_add (5 * n) 1) ?_
    refine wa_sld (k := 5 * n + 1) hx hb hX hbl hbA hS (by omega) (by omega) d_lw_258 ?_
    refine tp_i (y := nI km) e1 ?_
    refine lv_aload_n hx hb d_lw_259 rfl (lv_at hl 0 rfl) ?_
    refine lv_iload_n hx hb d_lw_260 rfl (lv_at hl 3 rfl) ?_
    refine lv_iconst (v := 2) hx hb d_lw_261 (by decide) ?_
    refine lv_iadd hx hb d_lw_262 ?_
    refine tp_i (y := nI (5 * n + 2)) (nI_add (5 * n) 2) ?_
    refine wa_sld (k := 5 * n + 2) hx hb hX hbl hbA hS (by omega) (by omega) d_lw_263 ?_
    refine lv_aload_n hx hb d_lw_264 rfl (lv_at hl 0 rfl) ?_
    refine lv_iload_n hx hb d_lw_265 rfl (lv_at hl 3 rfl) ?_
    refine lv_iconst (v := 3) hx hb d_lw_266 (by decide) ?_
    refine lv_iadd hx hb d_lw_267 ?_
    refine tp_i (y := nI (5 * n + 3)) (nI_add (5 * n) 3) ?_
    refine wa_sld (k := 5 * n + 3) hx hb hX hbl hbA hS (by omega) (by omega) d_lw_268 ?_
    refine md_V (hn := 3) (As := [.int (nI km), .int (xs (5 * n + 2)), .int (xs (5 * n + 3))]) (rest := [.long (gv (xs (5 * n + 3)) (lk (xs (5 * n + 2)) (LL km)))]) (k := km) (jn := ii km) (gu := fun u => u) hx hb hml hown hts hkm (c_md_give l D cI cT cP h2 r2 ft2 km hkm (g km) (hft2 km hkm) (ii km) (LL km) (vv km) (hI.1 km hkm).2.1 (xs (5 * n + 2)) (xs (5 * n + 3))) km_lw_30 ki_md_give ks_md_give kn_md kc_md_give (by decide +kernel) rfl ⟨Nat.le_of_ble_eq_true rfl, Nat.le_of_ble_eq_true rfl⟩ hK hP hD hS hA hl.1 rfl (Nat.le_of_ble_eq_true rfl) d_lw_269 ⟨by omega, by omega⟩ (fun v v9 H locs hpost hP hD hS => ?_)
    obtain ⟨e9, hP9⟩ := hpost
    subst e9
    refine W.eq (g2 := F0 m 272 ls [.long (gv (xs (5 * n + 3)) (lk (xs (5 * n + 2)) (LL km))), .long (gv (xs (5 * n + 3)) (lk (xs (5 * n + 2)) (LL km)))]) rfl ?_
    refine W.lcmp hx hb d_lw_272 ?_
    refine lv_if_eq (tgt := 707) hx hb d_lw_273 (by decide) (fun _ => ?_) (fun z9 => absurd (lg_eq.mpr rfl) z9)
    refine W.widen (k := 43 + cA_ (va_up jj km (jj km)) + cR (va_up ii km (ii km))) (n := 596 + sA_ (va_up jj km (jj km)) + sR (va_up ii km (ii km))) (by omega) (by omega) ?_
    exact hN _ _ _ _ _ (li_up hI hn1 km hT9 hP9 (Nat.le_trans us_len (by have := (hI.1 km hkm).2.2; omega))) _ _ hP hD hS ls hl
set_option maxRecDepth 100000 in
set_option maxHeartbeats 4000000 in
/-- remove -/
theorem cs_4 {L : Nat} {xs : Nat → Int32} (p : Program) (l : Launch) (e : Env) (s : State) (m : MethodId) (below : List Frame) (meth : Method) (c : Code) (D : va_G) (cI cT cP : ClassId) (b h r : Nat) (ft : Nat → Option Nat) (a : Nat → Nat) (h2 r2 : Nat) (ft2 : Nat → Option Nat) (g : Nat → Nat) (Q : State → Prop) (hx : p.tables.exec = Jvm.exec) (hb : c.code = code) (hml : c.maxLocals = 4) (hown : s.vm.findClass "HashHallLaw" = some m.cls) (hts : ∀ w ∈ al, w.before #[Value.ref b] s = true) (hX : va_X b L xs s s.heap) (hbl : b < s.heap.size) (hK : va_K D cls (ty3 cI cT cP) s) (hft : ∀ k, k < 3 → ft k = some (a k)) (hft2 : ∀ k, k < 3 → ft2 k = some (g k)) (hL : L ≤ 2560) (n : Nat) (hn5 : 5 * n + 5 ≤ L) (hN : LNx p l e s m below meth c D cI cT cP b h r ft a h2 r2 ft2 g Q (n + 1) (5 * n) 707) : LNx p l e s m below meth c D cI cT cP b h r ft a h2 r2 ft2 g Q n (5 * n) 278 := by
  intro LL jj uu ii vv hI H locs hP hD hS ls hl
  have hA : ∀ q : Nat, s.heap.size ≤ q → (fun q : Nat => s.heap.size ≤ q) q := fun _ h => h
  have hbA : ¬ (fun q : Nat => s.heap.size ≤ q) b := Nat.not_le.mpr hbl
  have hc1 := c_7 (jj := jj) (fun k hk => tl_7 (hI.1 k hk).1)
  have hc2 := c_7 (jj := ii) (fun k hk => pl_7 (hI.1 k hk).2.1)
  have hrc : 1000 ≤ room_1.cells := by decide
  have hrs : 400000 ≤ room_1.slots := by decide
  have hn1 : n + 1 ≤ 512 := by omega
  rcases bad_or (xs (5 * n + 1)) with hq | ⟨km, hkm, e1⟩
  · refine lv_aload_n hx hb d_lw_278 rfl (lv_at hl 1 rfl) ?_
    refine lv_aload_n hx hb d_lw_279 rfl (lv_at hl 0 rfl) ?_
    refine lv_iload_n hx hb d_lw_280 rfl (lv_at hl 3 rfl) ?_
    refine lv_iconst (v := 1) hx hb d_lw_281 (by decide) ?_
    refine lv_iadd hx hb d_lw_282 ?_
    refine tp_i (y := nI (5 * n + 1)) (nI_add (5 * n) 1) ?_
    refine wa_sld (k := 5 * n + 1) hx hb hX hbl hbA hS (by omega) (by omega) d_lw_283 ?_
    refine lv_aload_n hx hb d_lw_284 rfl (lv_at hl 0 rfl) ?_
    refine lv_iload_n hx hb d_lw_285 rfl (lv_at hl 3 rfl) ?_
    refine lv_iconst (v := 2) hx hb d_lw_286 (by decide) ?_
    refine lv_iadd hx hb d_lw_287 ?_
    refine tp_i (y := nI (5 * n + 2)) (nI_add (5 * n) 2) ?_
    refine wa_sld (k := 5 * n + 2) hx hb hX hbl hbA hS (by omega) (by omega) d_lw_288 ?_
    refine hh_V0 (hn := 2) (As := [.int (xs (5 * n + 1)), .int (xs (5 * n + 2))]) (rest := [])  hx hb hml hown hts  (c_hh_remove_x l D cI cT cP h r (xs (5 * n + 1)) hq (xs (5 * n + 2))) km_lw_31 ki_hh_remove ks_hh_remove kn_hh kc_hh_remove (by decide +kernel) rfl ⟨Nat.le_of_ble_eq_true rfl, Nat.le_of_ble_eq_true rfl⟩ hK hP hD hS hA hl.1 rfl (Nat.le_of_ble_eq_true rfl) d_lw_289 ⟨by omega, by omega⟩ (fun v u H locs hpost hP hD hS => ?_)
    subst hpost
    refine W.eq (g2 := F0 m 292 ls [.long 1099511627777]) rfl ?_
    refine lv_aload_n hx hb d_lw_292 rfl (lv_at hl 2 rfl) ?_
    refine lv_aload_n hx hb d_lw_293 rfl (lv_at hl 0 rfl) ?_
    refine lv_iload_n hx hb d_lw_294 rfl (lv_at hl 3 rfl) ?_
    refine lv_iconst (v := 1) hx hb d_lw_295 (by decide) ?_
    refine lv_iadd hx hb d_lw_296 ?_
    refine tp_i (y := nI (5 * n + 1)) (nI_add (5 * n) 1) ?_
    refine wa_sld (k := 5 * n + 1) hx hb hX hbl hbA hS (by omega) (by omega) d_lw_297 ?_
    refine lv_aload_n hx hb d_lw_298 rfl (lv_at hl 0 rfl) ?_
    refine lv_iload_n hx hb d_lw_299 rfl (lv_at hl 3 rfl) ?_
    refine lv_iconst (v := 2) hx hb d_lw_300 (by decide) ?_
    refine lv_iadd hx hb d_lw_301 ?_
    refine tp_i (y := nI (5 * n + 2)) (nI_add (5 * n) 2) ?_
    refine wa_sld (k := 5 * n + 2) hx hb hX hbl hbA hS (by omega) (by omega) d_lw_302 ?_
    refine md_V0 (hn := 2) (As := [.int (xs (5 * n + 1)), .int (xs (5 * n + 2))]) (rest := [.long 1099511627777])  hx hb hml hown hts  (c_md_remove_x l D cI cT cP h2 r2 (xs (5 * n + 1)) hq (xs (5 * n + 2))) km_lw_34 ki_md_remove ks_md_remove kn_md kc_md_remove (by decide +kernel) rfl ⟨Nat.le_of_ble_eq_true rfl, Nat.le_of_ble_eq_true rfl⟩ hK hP hD hS hA hl.1 rfl (Nat.le_of_ble_eq_true rfl) d_lw_303 ⟨by omega, by omega⟩ (fun v u H locs hpost hP hD hS => ?_)
    subst hpost
    refine W.eq (g2 := F0 m 306 ls [.long 1099511627777, .long 1099511627777]) rfl ?_
    refine W.lcmp hx hb d_lw_306 ?_
    refine lv_if_eq (tgt := 707) hx hb d_lw_307 (by decide) (fun _ => ?_) (fun z9 => absurd (lg_eq.mpr rfl) z9)
    refine W.widen (k := 43 + cA_ jj + cR ii) (n := 596 + sA_ jj + sR ii) (by omega) (by omega) ?_
    exact hN _ _ _ _ _ (li_mono hI hn1) _ _ hP hD hS ls hl
  · have hjA := Nat.le_refl (jj km)
    have hiA := Nat.le_refl (ii km)
    have hu1 := cA_up hkm hjA
    have hu2 := sA_up hkm hjA
    have hu3 := cR_up hkm hiA
    have hu4 := sR_up hkm hiA
    refine lv_aload_n hx hb d_lw_278 rfl (lv_at hl 1 rfl) ?_
    refine lv_aload_n hx hb d_lw_279 rfl (lv_at hl 0 rfl) ?_
    refine lv_iload_n hx hb d_lw_280 rfl (lv_at hl 3 rfl) ?_
    refine lv_iconst (v := 1) hx hb d_lw_281 (by decide) ?_
    refine lv_iadd hx hb d_lw_282 ?_
    refine tp_i (y := nI (5 * n + 1)) (nI_add (5 * n) 1) ?_
    refine wa_sld (k := 5 * n + 1) hx hb hX hbl hbA hS (by omega) (by omega) d_lw_283 ?_
    refine tp_i (y := nI km) e1 ?_
    refine lv_aload_n hx hb d_lw_284 rfl (lv_at hl 0 rfl) ?_
    refine lv_iload_n hx hb d_lw_285 rfl (lv_at hl 3 rfl) ?_
    refine lv_iconst (v := 2) hx hb d_lw_286 (by decide) ?_
    refine lv_iadd hx hb d_lw_287 ?_
    refine tp_i (y := nI (5 * n + 2)) (nI_add (5 * n) 2) ?_
    refine wa_sld (k := 5 * n + 2) hx hb hX hbl hbA hS (by omega) (by omega) d_lw_288 ?_
    refine hh_V (hn := 2) (As := [.int (nI km), .int (xs (5 * n + 2))]) (rest := []) (k := km) (jn := jj km) (gu := fun u => u) hx hb hml hown hts hkm (c_hh_remove l D cI cT cP h r ft km hkm (a km) (hft km hkm) (decide (km = 2)) (jj km) (LL km) (uu km) (hI.1 km hkm).1 (xs (5 * n + 2))) km_lw_31 ki_hh_remove ks_hh_remove kn_hh kc_hh_remove (by decide +kernel) rfl ⟨Nat.le_of_ble_eq_true rfl, Nat.le_of_ble_eq_true rfl⟩ hK hP hD hS hA hl.1 rfl (Nat.le_of_ble_eq_true rfl) d_lw_289 ⟨by omega, by omega⟩ (fun v u9 H locs hpost hP hD hS => ?_)
    obtain ⟨e9, hT9⟩ := hpost
    subst e9
    refine W.eq (g2 := F0 m 292 ls [.long (an (lk (xs (5 * n + 2)) (LL km)))]) rfl ?_
    refine lv_aload_n hx hb d_lw_292 rfl (lv_at hl 2 rfl) ?_
    refine lv_aload_n hx hb d_lw_293 rfl (lv_at hl 0 rfl) ?_
    refine lv_iload_n hx hb d_lw_294 rfl (lv_at hl 3 rfl) ?_
    refine lv_iconst (v := 1) hx hb d_lw_295 (by decide) ?_
    refine lv_iadd hx hb d_lw_296 ?_
    refine tp_i (y := nI (5 * n + 1)) (nI_add (5 * n) 1) ?_
    refine wa_sld (k := 5 * n + 1) hx hb hX hbl hbA hS (by omega) (by omega) d_lw_297 ?_
    refine tp_i (y := nI km) e1 ?_
    refine lv_aload_n hx hb d_lw_298 rfl (lv_at hl 0 rfl) ?_
    refine lv_iload_n hx hb d_lw_299 rfl (lv_at hl 3 rfl) ?_
    refine lv_iconst (v := 2) hx hb d_lw_300 (by decide) ?_
    refine lv_iadd hx hb d_lw_301 ?_
    refine tp_i (y := nI (5 * n + 2)) (nI_add (5 * n) 2) ?_
    refine wa_sld (k := 5 * n + 2) hx hb hX hbl hbA hS (by omega) (by omega) d_lw_302 ?_
    refine md_V (hn := 2) (As := [.int (nI km), .int (xs (5 * n + 2))]) (rest := [.long (an (lk (xs (5 * n + 2)) (LL km)))]) (k := km) (jn := ii km) (gu := fun u => u) hx hb hml hown hts hkm (c_md_remove l D cI cT cP h2 r2 ft2 km hkm (g km) (hft2 km hkm) (ii km) (LL km) (vv km) (hI.1 km hkm).2.1 (xs (5 * n + 2))) km_lw_34 ki_md_remove ks_md_remove kn_md kc_md_remove (by decide +kernel) rfl ⟨Nat.le_of_ble_eq_true rfl, Nat.le_of_ble_eq_true rfl⟩ hK hP hD hS hA hl.1 rfl (Nat.le_of_ble_eq_true rfl) d_lw_303 ⟨by omega, by omega⟩ (fun v v9 H locs hpost hP hD hS => ?_)
    obtain ⟨e9, hP9⟩ := hpost
    subst e9
    refine W.eq (g2 := F0 m 306 ls [.long (an (lk (xs (5 * n + 2)) (LL km))), .long (an (lk (xs (5 * n + 2)) (LL km)))]) rfl ?_
    refine W.lcmp hx hb d_lw_306 ?_
    refine lv_if_eq (tgt := 707) hx hb d_lw_307 (by decide) (fun _ => ?_) (fun z9 => absurd (lg_eq.mpr rfl) z9)
    refine W.widen (k := 43 + cA_ (va_up jj km (jj km)) + cR (va_up ii km (ii km))) (n := 596 + sA_ (va_up jj km (jj km)) + sR (va_up ii km (ii km))) (by omega) (by omega) ?_
    exact hN _ _ _ _ _ (li_up hI hn1 km hT9 hP9 (Nat.le_trans del_len (by have := (hI.1 km hkm).2.2; omega))) _ _ hP hD hS ls hl
set_option maxRecDepth 100000 in
set_option maxHeartbeats 4000000 in
/-- take -/
theorem cs_5 {L : Nat} {xs : Nat → Int32} (p : Program) (l : Launch) (e : Env) (s : State) (m : MethodId) (below : List Frame) (meth : Method) (c : Code) (D : va_G) (cI cT cP : ClassId) (b h r : Nat) (ft : Nat → Option Nat) (a : Nat → Nat) (h2 r2 : Nat) (ft2 : Nat → Option Nat) (g : Nat → Nat) (Q : State → Prop) (hx : p.tables.exec = Jvm.exec) (hb : c.code = code) (hml : c.maxLocals = 4) (hown : s.vm.findClass "HashHallLaw" = some m.cls) (hts : ∀ w ∈ al, w.before #[Value.ref b] s = true) (hX : va_X b L xs s s.heap) (hbl : b < s.heap.size) (hK : va_K D cls (ty3 cI cT cP) s) (hft : ∀ k, k < 3 → ft k = some (a k)) (hft2 : ∀ k, k < 3 → ft2 k = some (g k)) (hL : L ≤ 2560) (n : Nat) (hn5 : 5 * n + 5 ≤ L) (hN : LNx p l e s m below meth c D cI cT cP b h r ft a h2 r2 ft2 g Q (n + 1) (5 * n) 707) : LNx p l e s m below meth c D cI cT cP b h r ft a h2 r2 ft2 g Q n (5 * n) 312 := by
  intro LL jj uu ii vv hI H locs hP hD hS ls hl
  have hA : ∀ q : Nat, s.heap.size ≤ q → (fun q : Nat => s.heap.size ≤ q) q := fun _ h => h
  have hbA : ¬ (fun q : Nat => s.heap.size ≤ q) b := Nat.not_le.mpr hbl
  have hc1 := c_7 (jj := jj) (fun k hk => tl_7 (hI.1 k hk).1)
  have hc2 := c_7 (jj := ii) (fun k hk => pl_7 (hI.1 k hk).2.1)
  have hrc : 1000 ≤ room_1.cells := by decide
  have hrs : 400000 ≤ room_1.slots := by decide
  have hn1 : n + 1 ≤ 512 := by omega
  rcases bad_or (xs (5 * n + 1)) with hq | ⟨km, hkm, e1⟩
  · refine lv_aload_n hx hb d_lw_312 rfl (lv_at hl 1 rfl) ?_
    refine lv_aload_n hx hb d_lw_313 rfl (lv_at hl 0 rfl) ?_
    refine lv_iload_n hx hb d_lw_314 rfl (lv_at hl 3 rfl) ?_
    refine lv_iconst (v := 1) hx hb d_lw_315 (by decide) ?_
    refine lv_iadd hx hb d_lw_316 ?_
    refine tp_i (y := nI (5 * n + 1)) (nI_add (5 * n) 1) ?_
    refine wa_sld (k := 5 * n + 1) hx hb hX hbl hbA hS (by omega) (by omega) d_lw_317 ?_
    refine lv_aload_n hx hb d_lw_318 rfl (lv_at hl 0 rfl) ?_
    refine lv_iload_n hx hb d_lw_319 rfl (lv_at hl 3 rfl) ?_
    refine lv_iconst (v := 2) hx hb d_lw_320 (by decide) ?_
    refine lv_iadd hx hb d_lw_321 ?_
    refine tp_i (y := nI (5 * n + 2)) (nI_add (5 * n) 2) ?_
    refine wa_sld (k := 5 * n + 2) hx hb hX hbl hbA hS (by omega) (by omega) d_lw_322 ?_
    refine lv_aload_n hx hb d_lw_323 rfl (lv_at hl 0 rfl) ?_
    refine lv_iload_n hx hb d_lw_324 rfl (lv_at hl 3 rfl) ?_
    refine lv_iconst (v := 3) hx hb d_lw_325 (by decide) ?_
    refine lv_iadd hx hb d_lw_326 ?_
    refine tp_i (y := nI (5 * n + 3)) (nI_add (5 * n) 3) ?_
    refine wa_sld (k := 5 * n + 3) hx hb hX hbl hbA hS (by omega) (by omega) d_lw_327 ?_
    refine hh_V0 (hn := 3) (As := [.int (xs (5 * n + 1)), .int (xs (5 * n + 2)), .int (xs (5 * n + 3))]) (rest := [])  hx hb hml hown hts  (c_hh_take_x l D cI cT cP h r (xs (5 * n + 1)) hq (xs (5 * n + 2)) (xs (5 * n + 3))) km_lw_35 ki_hh_take ks_hh_take kn_hh kc_hh_take (by decide +kernel) rfl ⟨Nat.le_of_ble_eq_true rfl, Nat.le_of_ble_eq_true rfl⟩ hK hP hD hS hA hl.1 rfl (Nat.le_of_ble_eq_true rfl) d_lw_328 ⟨by omega, by omega⟩ (fun v u H locs hpost hP hD hS => ?_)
    subst hpost
    refine W.eq (g2 := F0 m 331 ls [.int 0]) rfl ?_
    refine lv_aload_n hx hb d_lw_331 rfl (lv_at hl 2 rfl) ?_
    refine lv_aload_n hx hb d_lw_332 rfl (lv_at hl 0 rfl) ?_
    refine lv_iload_n hx hb d_lw_333 rfl (lv_at hl 3 rfl) ?_
    refine lv_iconst (v := 1) hx hb d_lw_334 (by decide) ?_
    refine lv_iadd hx hb d_lw_335 ?_
    refine tp_i (y := nI (5 * n + 1)) (nI_add (5 * n) 1) ?_
    refine wa_sld (k := 5 * n + 1) hx hb hX hbl hbA hS (by omega) (by omega) d_lw_336 ?_
    refine lv_aload_n hx hb d_lw_337 rfl (lv_at hl 0 rfl) ?_
    refine lv_iload_n hx hb d_lw_338 rfl (lv_at hl 3 rfl) ?_
    refine lv_iconst (v := 2) hx hb d_lw_339 (by decide) ?_
    refine lv_iadd hx hb d_lw_340 ?_
    refine tp_i (y := nI (5 * n + 2)) (nI_add (5 * n) 2) ?_
    refine wa_sld (k := 5 * n + 2) hx hb hX hbl hbA hS (by omega) (by omega) d_lw_341 ?_
    refine lv_aload_n hx hb d_lw_342 rfl (lv_at hl 0 rfl) ?_
    refine lv_iload_n hx hb d_lw_343 rfl (lv_at hl 3 rfl) ?_
    refine lv_iconst (v := 3) hx hb d_lw_344 (by decide) ?_
    refine lv_iadd hx hb d_lw_345 ?_
    refine tp_i (y := nI (5 * n + 3)) (nI_add (5 * n) 3) ?_
    refine wa_sld (k := 5 * n + 3) hx hb hX hbl hbA hS (by omega) (by omega) d_lw_346 ?_
    refine md_V0 (hn := 3) (As := [.int (xs (5 * n + 1)), .int (xs (5 * n + 2)), .int (xs (5 * n + 3))]) (rest := [.int 0])  hx hb hml hown hts  (c_md_take_x l D cI cT cP h2 r2 (xs (5 * n + 1)) hq (xs (5 * n + 2)) (xs (5 * n + 3))) km_lw_39 ki_md_take ks_md_take kn_md kc_md_take (by decide +kernel) rfl ⟨Nat.le_of_ble_eq_true rfl, Nat.le_of_ble_eq_true rfl⟩ hK hP hD hS hA hl.1 rfl (Nat.le_of_ble_eq_true rfl) d_lw_347 ⟨by omega, by omega⟩ (fun v u H locs hpost hP hD hS => ?_)
    subst hpost
    refine W.eq (g2 := F0 m 350 ls [.int 0, .int 0]) rfl ?_
    refine lv_icmp_eq (tgt := 707) hx hb d_lw_350 (by decide) (fun _ => ?_) (fun z9 => absurd rfl z9)
    refine W.widen (k := 43 + cA_ jj + cR ii) (n := 596 + sA_ jj + sR ii) (by omega) (by omega) ?_
    exact hN _ _ _ _ _ (li_mono hI hn1) _ _ hP hD hS ls hl
  · have hjA := Nat.le_refl (jj km)
    have hiA := Nat.le_refl (ii km)
    have hu1 := cA_up hkm hjA
    have hu2 := sA_up hkm hjA
    have hu3 := cR_up hkm hiA
    have hu4 := sR_up hkm hiA
    refine lv_aload_n hx hb d_lw_312 rfl (lv_at hl 1 rfl) ?_
    refine lv_aload_n hx hb d_lw_313 rfl (lv_at hl 0 rfl) ?_
    refine lv_iload_n hx hb d_lw_314 rfl (lv_at hl 3 rfl) ?_
    refine lv_iconst (v := 1) hx hb d_lw_315 (by decide) ?_
    refine lv_iadd hx hb d_lw_316 ?_
    refine tp_i (y := nI (5 * n + 1)) (nI_add (5 * n) 1) ?_
    refine wa_sld (k := 5 * n + 1) hx hb hX hbl hbA hS (by omega) (by omega) d_lw_317 ?_
    refine tp_i (y := nI km) e1 ?_
    refine lv_aload_n hx hb d_lw_318 rfl (lv_at hl 0 rfl) ?_
    refine lv_iload_n hx hb d_lw_319 rfl (lv_at hl 3 rfl) ?_
    refine lv_iconst (v := 2) hx hb d_lw_320 (by decide) ?_
    refine lv_iadd hx hb d_lw_321 ?_
    refine tp_i (y := nI (5 * n + 2)) (nI_add (5 * n) 2) ?_
    refine wa_sld (k := 5 * n + 2) hx hb hX hbl hbA hS (by omega) (by omega) d_lw_322 ?_
    refine lv_aload_n hx hb d_lw_323 rfl (lv_at hl 0 rfl) ?_
    refine lv_iload_n hx hb d_lw_324 rfl (lv_at hl 3 rfl) ?_
    refine lv_iconst (v := 3) hx hb d_lw_325 (by decide) ?_
    refine lv_iadd hx hb d_lw_326 ?_
    refine tp_i (y := nI (5 * n + 3)) (nI_add (5 * n) 3) ?_
    refine wa_sld (k := 5 * n + 3) hx hb hX hbl hbA hS (by omega) (by omega) d_lw_327 ?_
    refine hh_V (hn := 3) (As := [.int (nI km), .int (xs (5 * n + 2)), .int (xs (5 * n + 3))]) (rest := []) (k := km) (jn := jj km) (gu := fun u => u) hx hb hml hown hts hkm (c_hh_take l D cI cT cP h r ft km hkm (a km) (hft km hkm) (decide (km = 2)) (jj km) (LL km) (uu km) (hI.1 km hkm).1 (xs (5 * n + 2)) (xs (5 * n + 3))) km_lw_35 ki_hh_take ks_hh_take kn_hh kc_hh_take (by decide +kernel) rfl ⟨Nat.le_of_ble_eq_true rfl, Nat.le_of_ble_eq_true rfl⟩ hK hP hD hS hA hl.1 rfl (Nat.le_of_ble_eq_true rfl) d_lw_328 ⟨by omega, by omega⟩ (fun v u9 H locs hpost hP hD hS => ?_)
    obtain ⟨e9, hT9⟩ := hpost
    subst e9
    refine W.eq (g2 := F0 m 331 ls [.int (zI (decide (lk (xs (5 * n + 2)) (LL km) = some (xs (5 * n + 3)))))]) rfl ?_
    refine lv_aload_n hx hb d_lw_331 rfl (lv_at hl 2 rfl) ?_
    refine lv_aload_n hx hb d_lw_332 rfl (lv_at hl 0 rfl) ?_
    refine lv_iload_n hx hb d_lw_333 rfl (lv_at hl 3 rfl) ?_
    refine lv_iconst (v := 1) hx hb d_lw_334 (by decide) ?_
    refine lv_iadd hx hb d_lw_335 ?_
    refine tp_i (y := nI (5 * n + 1)) (nI_add (5 * n) 1) ?_
    refine wa_sld (k := 5 * n + 1) hx hb hX hbl hbA hS (by omega) (by omega) d_lw_336 ?_
    refine tp_i (y := nI km) e1 ?_
    refine lv_aload_n hx hb d_lw_337 rfl (lv_at hl 0 rfl) ?_
    refine lv_iload_n hx hb d_lw_338 rfl (lv_at hl 3 rfl) ?_
    refine lv_iconst (v := 2) hx hb d_lw_339 (by decide) ?_
    refine lv_iadd hx hb d_lw_340 ?_
    refine tp_i (y := nI (5 * n + 2)) (nI_add (5 * n) 2) ?_
    refine wa_sld (k := 5 * n + 2) hx hb hX hbl hbA hS (by omega) (by omega) d_lw_341 ?_
    refine lv_aload_n hx hb d_lw_342 rfl (lv_at hl 0 rfl) ?_
    refine lv_iload_n hx hb d_lw_343 rfl (lv_at hl 3 rfl) ?_
    refine lv_iconst (v := 3) hx hb d_lw_344 (by decide) ?_
    refine lv_iadd hx hb d_lw_345 ?_
    refine tp_i (y := nI (5 * n + 3)) (nI_add (5 * n) 3) ?_
    refine wa_sld (k := 5 * n + 3) hx hb hX hbl hbA hS (by omega) (by omega) d_lw_346 ?_
    refine md_V (hn := 3) (As := [.int (nI km), .int (xs (5 * n + 2)), .int (xs (5 * n + 3))]) (rest := [.int (zI (decide (lk (xs (5 * n + 2)) (LL km) = some (xs (5 * n + 3)))))]) (k := km) (jn := ii km) (gu := fun u => u) hx hb hml hown hts hkm (c_md_take l D cI cT cP h2 r2 ft2 km hkm (g km) (hft2 km hkm) (ii km) (LL km) (vv km) (hI.1 km hkm).2.1 (xs (5 * n + 2)) (xs (5 * n + 3))) km_lw_39 ki_md_take ks_md_take kn_md kc_md_take (by decide +kernel) rfl ⟨Nat.le_of_ble_eq_true rfl, Nat.le_of_ble_eq_true rfl⟩ hK hP hD hS hA hl.1 rfl (Nat.le_of_ble_eq_true rfl) d_lw_347 ⟨by omega, by omega⟩ (fun v v9 H locs hpost hP hD hS => ?_)
    obtain ⟨e9, hP9⟩ := hpost
    subst e9
    refine W.eq (g2 := F0 m 350 ls [.int (zI (decide (lk (xs (5 * n + 2)) (LL km) = some (xs (5 * n + 3))))), .int (zI (decide (lk (xs (5 * n + 2)) (LL km) = some (xs (5 * n + 3)))))]) rfl ?_
    refine lv_icmp_eq (tgt := 707) hx hb d_lw_350 (by decide) (fun _ => ?_) (fun z9 => absurd rfl z9)
    refine W.widen (k := 43 + cA_ (va_up jj km (jj km)) + cR (va_up ii km (ii km))) (n := 596 + sA_ (va_up jj km (jj km)) + sR (va_up ii km (ii km))) (by omega) (by omega) ?_
    exact hN _ _ _ _ _ (li_up hI hn1 km hT9 hP9 (Nat.le_trans tk_len (by have := (hI.1 km hkm).2.2; omega))) _ _ hP hD hS ls hl
set_option maxRecDepth 100000 in
set_option maxHeartbeats 4000000 in
/-- has -/
theorem cs_6 {L : Nat} {xs : Nat → Int32} (p : Program) (l : Launch) (e : Env) (s : State) (m : MethodId) (below : List Frame) (meth : Method) (c : Code) (D : va_G) (cI cT cP : ClassId) (b h r : Nat) (ft : Nat → Option Nat) (a : Nat → Nat) (h2 r2 : Nat) (ft2 : Nat → Option Nat) (g : Nat → Nat) (Q : State → Prop) (hx : p.tables.exec = Jvm.exec) (hb : c.code = code) (hml : c.maxLocals = 4) (hown : s.vm.findClass "HashHallLaw" = some m.cls) (hts : ∀ w ∈ al, w.before #[Value.ref b] s = true) (hX : va_X b L xs s s.heap) (hbl : b < s.heap.size) (hK : va_K D cls (ty3 cI cT cP) s) (hft : ∀ k, k < 3 → ft k = some (a k)) (hft2 : ∀ k, k < 3 → ft2 k = some (g k)) (hL : L ≤ 2560) (n : Nat) (hn5 : 5 * n + 5 ≤ L) (hN : LNx p l e s m below meth c D cI cT cP b h r ft a h2 r2 ft2 g Q (n + 1) (5 * n) 707) : LNx p l e s m below meth c D cI cT cP b h r ft a h2 r2 ft2 g Q n (5 * n) 355 := by
  intro LL jj uu ii vv hI H locs hP hD hS ls hl
  have hA : ∀ q : Nat, s.heap.size ≤ q → (fun q : Nat => s.heap.size ≤ q) q := fun _ h => h
  have hbA : ¬ (fun q : Nat => s.heap.size ≤ q) b := Nat.not_le.mpr hbl
  have hc1 := c_7 (jj := jj) (fun k hk => tl_7 (hI.1 k hk).1)
  have hc2 := c_7 (jj := ii) (fun k hk => pl_7 (hI.1 k hk).2.1)
  have hrc : 1000 ≤ room_1.cells := by decide
  have hrs : 400000 ≤ room_1.slots := by decide
  have hn1 : n + 1 ≤ 512 := by omega
  rcases bad_or (xs (5 * n + 1)) with hq | ⟨km, hkm, e1⟩
  · refine lv_aload_n hx hb d_lw_355 rfl (lv_at hl 1 rfl) ?_
    refine lv_aload_n hx hb d_lw_356 rfl (lv_at hl 0 rfl) ?_
    refine lv_iload_n hx hb d_lw_357 rfl (lv_at hl 3 rfl) ?_
    refine lv_iconst (v := 1) hx hb d_lw_358 (by decide) ?_
    refine lv_iadd hx hb d_lw_359 ?_
    refine tp_i (y := nI (5 * n + 1)) (nI_add (5 * n) 1) ?_
    refine wa_sld (k := 5 * n + 1) hx hb hX hbl hbA hS (by omega) (by omega) d_lw_360 ?_
    refine lv_aload_n hx hb d_lw_361 rfl (lv_at hl 0 rfl) ?_
    refine lv_iload_n hx hb d_lw_362 rfl (lv_at hl 3 rfl) ?_
    refine lv_iconst (v := 2) hx hb d_lw_363 (by decide) ?_
    refine lv_iadd hx hb d_lw_364 ?_
    refine tp_i (y := nI (5 * n + 2)) (nI_add (5 * n) 2) ?_
    refine wa_sld (k := 5 * n + 2) hx hb hX hbl hbA hS (by omega) (by omega) d_lw_365 ?_
    refine lv_aload_n hx hb d_lw_366 rfl (lv_at hl 0 rfl) ?_
    refine lv_iload_n hx hb d_lw_367 rfl (lv_at hl 3 rfl) ?_
    refine lv_iconst (v := 3) hx hb d_lw_368 (by decide) ?_
    refine lv_iadd hx hb d_lw_369 ?_
    refine tp_i (y := nI (5 * n + 3)) (nI_add (5 * n) 3) ?_
    refine wa_sld (k := 5 * n + 3) hx hb hX hbl hbA hS (by omega) (by omega) d_lw_370 ?_
    refine hh_V0 (hn := 3) (As := [.int (xs (5 * n + 1)), .int (xs (5 * n + 2)), .int (xs (5 * n + 3))]) (rest := [])  hx hb hml hown hts  (c_hh_has_x l D cI cT cP h r (xs (5 * n + 1)) hq (xs (5 * n + 2)) (xs (5 * n + 3))) km_lw_40 ki_hh_has ks_hh_has kn_hh kc_hh_has (by decide +kernel) rfl ⟨Nat.le_of_ble_eq_true rfl, Nat.le_of_ble_eq_true rfl⟩ hK hP hD hS hA hl.1 rfl (Nat.le_of_ble_eq_true rfl) d_lw_371 ⟨by omega, by omega⟩ (fun v u H locs hpost hP hD hS => ?_)
    subst hpost
    refine W.eq (g2 := F0 m 374 ls [.int 0]) rfl ?_
    refine lv_aload_n hx hb d_lw_374 rfl (lv_at hl 2 rfl) ?_
    refine lv_aload_n hx hb d_lw_375 rfl (lv_at hl 0 rfl) ?_
    refine lv_iload_n hx hb d_lw_376 rfl (lv_at hl 3 rfl) ?_
    refine lv_iconst (v := 1) hx hb d_lw_377 (by decide) ?_
    refine lv_iadd hx hb d_lw_378 ?_
    refine tp_i (y := nI (5 * n + 1)) (nI_add (5 * n) 1) ?_
    refine wa_sld (k := 5 * n + 1) hx hb hX hbl hbA hS (by omega) (by omega) d_lw_379 ?_
    refine lv_aload_n hx hb d_lw_380 rfl (lv_at hl 0 rfl) ?_
    refine lv_iload_n hx hb d_lw_381 rfl (lv_at hl 3 rfl) ?_
    refine lv_iconst (v := 2) hx hb d_lw_382 (by decide) ?_
    refine lv_iadd hx hb d_lw_383 ?_
    refine tp_i (y := nI (5 * n + 2)) (nI_add (5 * n) 2) ?_
    refine wa_sld (k := 5 * n + 2) hx hb hX hbl hbA hS (by omega) (by omega) d_lw_384 ?_
    refine lv_aload_n hx hb d_lw_385 rfl (lv_at hl 0 rfl) ?_
    refine lv_iload_n hx hb d_lw_386 rfl (lv_at hl 3 rfl) ?_
    refine lv_iconst (v := 3) hx hb d_lw_387 (by decide) ?_
    refine lv_iadd hx hb d_lw_388 ?_
    refine tp_i (y := nI (5 * n + 3)) (nI_add (5 * n) 3) ?_
    refine wa_sld (k := 5 * n + 3) hx hb hX hbl hbA hS (by omega) (by omega) d_lw_389 ?_
    refine md_V0 (hn := 3) (As := [.int (xs (5 * n + 1)), .int (xs (5 * n + 2)), .int (xs (5 * n + 3))]) (rest := [.int 0])  hx hb hml hown hts  (c_md_has_x l D cI cT cP h2 r2 (xs (5 * n + 1)) hq (xs (5 * n + 2)) (xs (5 * n + 3))) km_lw_43 ki_md_has ks_md_has kn_md kc_md_has (by decide +kernel) rfl ⟨Nat.le_of_ble_eq_true rfl, Nat.le_of_ble_eq_true rfl⟩ hK hP hD hS hA hl.1 rfl (Nat.le_of_ble_eq_true rfl) d_lw_390 ⟨by omega, by omega⟩ (fun v u H locs hpost hP hD hS => ?_)
    subst hpost
    refine W.eq (g2 := F0 m 393 ls [.int 0, .int 0]) rfl ?_
    refine lv_icmp_eq (tgt := 707) hx hb d_lw_393 (by decide) (fun _ => ?_) (fun z9 => absurd rfl z9)
    refine W.widen (k := 43 + cA_ jj + cR ii) (n := 596 + sA_ jj + sR ii) (by omega) (by omega) ?_
    exact hN _ _ _ _ _ (li_mono hI hn1) _ _ hP hD hS ls hl
  · have hjA := Nat.le_refl (jj km)
    have hiA := Nat.le_refl (ii km)
    have hu1 := cA_up hkm hjA
    have hu2 := sA_up hkm hjA
    have hu3 := cR_up hkm hiA
    have hu4 := sR_up hkm hiA
    refine lv_aload_n hx hb d_lw_355 rfl (lv_at hl 1 rfl) ?_
    refine lv_aload_n hx hb d_lw_356 rfl (lv_at hl 0 rfl) ?_
    refine lv_iload_n hx hb d_lw_357 rfl (lv_at hl 3 rfl) ?_
    refine lv_iconst (v := 1) hx hb d_lw_358 (by decide) ?_
    refine lv_iadd hx hb d_lw_359 ?_
    refine tp_i (y := nI (5 * n + 1)) (nI_add (5 * n) 1) ?_
    refine wa_sld (k := 5 * n + 1) hx hb hX hbl hbA hS (by omega) (by omega) d_lw_360 ?_
    refine tp_i (y := nI km) e1 ?_
    refine lv_aload_n hx hb d_lw_361 rfl (lv_at hl 0 rfl) ?_
    refine lv_iload_n hx hb d_lw_362 rfl (lv_at hl 3 rfl) ?_
    refine lv_iconst (v := 2) hx hb d_lw_363 (by decide) ?_
    refine lv_iadd hx hb d_lw_364 ?_
    refine tp_i (y := nI (5 * n + 2)) (nI_add (5 * n) 2) ?_
    refine wa_sld (k := 5 * n + 2) hx hb hX hbl hbA hS (by omega) (by omega) d_lw_365 ?_
    refine lv_aload_n hx hb d_lw_366 rfl (lv_at hl 0 rfl) ?_
    refine lv_iload_n hx hb d_lw_367 rfl (lv_at hl 3 rfl) ?_
    refine lv_iconst (v := 3) hx hb d_lw_368 (by decide) ?_
    refine lv_iadd hx hb d_lw_369 ?_
    refine tp_i (y := nI (5 * n + 3)) (nI_add (5 * n) 3) ?_
    refine wa_sld (k := 5 * n + 3) hx hb hX hbl hbA hS (by omega) (by omega) d_lw_370 ?_
    refine hh_V (hn := 3) (As := [.int (nI km), .int (xs (5 * n + 2)), .int (xs (5 * n + 3))]) (rest := []) (k := km) (jn := jj km) (gu := fun _ => uu km) hx hb hml hown hts hkm (c_hh_has l D cI cT cP h r ft km hkm (a km) (hft km hkm) (decide (km = 2)) (jj km) (LL km) (uu km) (hI.1 km hkm).1 (xs (5 * n + 2)) (xs (5 * n + 3))) km_lw_40 ki_hh_has ks_hh_has kn_hh kc_hh_has (by decide +kernel) rfl ⟨Nat.le_of_ble_eq_true rfl, Nat.le_of_ble_eq_true rfl⟩ hK hP hD hS hA hl.1 rfl (Nat.le_of_ble_eq_true rfl) d_lw_371 ⟨by omega, by omega⟩ (fun v u9 H locs hpost hP hD hS => ?_)
    subst hpost
    refine W.eq (g2 := F0 m 374 ls [.int (zI (hs (xs (5 * n + 2)) (xs (5 * n + 3)) (LL km)))]) rfl ?_
    refine lv_aload_n hx hb d_lw_374 rfl (lv_at hl 2 rfl) ?_
    refine lv_aload_n hx hb d_lw_375 rfl (lv_at hl 0 rfl) ?_
    refine lv_iload_n hx hb d_lw_376 rfl (lv_at hl 3 rfl) ?_
    refine lv_iconst (v := 1) hx hb d_lw_377 (by decide) ?_
    refine lv_iadd hx hb d_lw_378 ?_
    refine tp_i (y := nI (5 * n + 1)) (nI_add (5 * n) 1) ?_
    refine wa_sld (k := 5 * n + 1) hx hb hX hbl hbA hS (by omega) (by omega) d_lw_379 ?_
    refine tp_i (y := nI km) e1 ?_
    refine lv_aload_n hx hb d_lw_380 rfl (lv_at hl 0 rfl) ?_
    refine lv_iload_n hx hb d_lw_381 rfl (lv_at hl 3 rfl) ?_
    refine lv_iconst (v := 2) hx hb d_lw_382 (by decide) ?_
    refine lv_iadd hx hb d_lw_383 ?_
    refine tp_i (y := nI (5 * n + 2)) (nI_add (5 * n) 2) ?_
    refine wa_sld (k := 5 * n + 2) hx hb hX hbl hbA hS (by omega) (by omega) d_lw_384 ?_
    refine lv_aload_n hx hb d_lw_385 rfl (lv_at hl 0 rfl) ?_
    refine lv_iload_n hx hb d_lw_386 rfl (lv_at hl 3 rfl) ?_
    refine lv_iconst (v := 3) hx hb d_lw_387 (by decide) ?_
    refine lv_iadd hx hb d_lw_388 ?_
    refine tp_i (y := nI (5 * n + 3)) (nI_add (5 * n) 3) ?_
    refine wa_sld (k := 5 * n + 3) hx hb hX hbl hbA hS (by omega) (by omega) d_lw_389 ?_
    refine md_V (hn := 3) (As := [.int (nI km), .int (xs (5 * n + 2)), .int (xs (5 * n + 3))]) (rest := [.int (zI (hs (xs (5 * n + 2)) (xs (5 * n + 3)) (LL km)))]) (k := km) (jn := ii km) (gu := fun _ => vv km) hx hb hml hown hts hkm (c_md_has l D cI cT cP h2 r2 ft2 km hkm (g km) (hft2 km hkm) (ii km) (LL km) (vv km) (hI.1 km hkm).2.1 (xs (5 * n + 2)) (xs (5 * n + 3))) km_lw_43 ki_md_has ks_md_has kn_md kc_md_has (by decide +kernel) rfl ⟨Nat.le_of_ble_eq_true rfl, Nat.le_of_ble_eq_true rfl⟩ hK hP hD hS hA hl.1 rfl (Nat.le_of_ble_eq_true rfl) d_lw_390 ⟨by omega, by omega⟩ (fun v v9 H locs hpost hP hD hS => ?_)
    subst hpost
    refine W.eq (g2 := F0 m 393 ls [.int (zI (hs (xs (5 * n + 2)) (xs (5 * n + 3)) (LL km))), .int (zI (hs (xs (5 * n + 2)) (xs (5 * n + 3)) (LL km)))]) rfl ?_
    refine lv_icmp_eq (tgt := 707) hx hb d_lw_393 (by decide) (fun _ => ?_) (fun z9 => absurd rfl z9)
    refine W.widen (k := 43 + cA_ (va_up jj km (jj km)) + cR (va_up ii km (ii km))) (n := 596 + sA_ (va_up jj km (jj km)) + sR (va_up ii km (ii km))) (by omega) (by omega) ?_
    exact hN _ _ _ _ _ (li_up hI hn1 km (L' := LL km) (hI.1 km hkm).1 (hI.1 km hkm).2.1 (by have := (hI.1 km hkm).2.2; omega)) _ _ hP hD hS ls hl
set_option maxRecDepth 100000 in
set_option maxHeartbeats 4000000 in
/-- size -/
theorem cs_7 {L : Nat} {xs : Nat → Int32} (p : Program) (l : Launch) (e : Env) (s : State) (m : MethodId) (below : List Frame) (meth : Method) (c : Code) (D : va_G) (cI cT cP : ClassId) (b h r : Nat) (ft : Nat → Option Nat) (a : Nat → Nat) (h2 r2 : Nat) (ft2 : Nat → Option Nat) (g : Nat → Nat) (Q : State → Prop) (hx : p.tables.exec = Jvm.exec) (hb : c.code = code) (hml : c.maxLocals = 4) (hown : s.vm.findClass "HashHallLaw" = some m.cls) (hts : ∀ w ∈ al, w.before #[Value.ref b] s = true) (hX : va_X b L xs s s.heap) (hbl : b < s.heap.size) (hK : va_K D cls (ty3 cI cT cP) s) (hft : ∀ k, k < 3 → ft k = some (a k)) (hft2 : ∀ k, k < 3 → ft2 k = some (g k)) (hL : L ≤ 2560) (n : Nat) (hn5 : 5 * n + 5 ≤ L) (hN : LNx p l e s m below meth c D cI cT cP b h r ft a h2 r2 ft2 g Q (n + 1) (5 * n) 707) : LNx p l e s m below meth c D cI cT cP b h r ft a h2 r2 ft2 g Q n (5 * n) 398 := by
  intro LL jj uu ii vv hI H locs hP hD hS ls hl
  have hA : ∀ q : Nat, s.heap.size ≤ q → (fun q : Nat => s.heap.size ≤ q) q := fun _ h => h
  have hbA : ¬ (fun q : Nat => s.heap.size ≤ q) b := Nat.not_le.mpr hbl
  have hc1 := c_7 (jj := jj) (fun k hk => tl_7 (hI.1 k hk).1)
  have hc2 := c_7 (jj := ii) (fun k hk => pl_7 (hI.1 k hk).2.1)
  have hrc : 1000 ≤ room_1.cells := by decide
  have hrs : 400000 ≤ room_1.slots := by decide
  have hn1 : n + 1 ≤ 512 := by omega
  rcases bad_or (xs (5 * n + 1)) with hq | ⟨km, hkm, e1⟩
  · refine lv_aload_n hx hb d_lw_398 rfl (lv_at hl 1 rfl) ?_
    refine lv_aload_n hx hb d_lw_399 rfl (lv_at hl 0 rfl) ?_
    refine lv_iload_n hx hb d_lw_400 rfl (lv_at hl 3 rfl) ?_
    refine lv_iconst (v := 1) hx hb d_lw_401 (by decide) ?_
    refine lv_iadd hx hb d_lw_402 ?_
    refine tp_i (y := nI (5 * n + 1)) (nI_add (5 * n) 1) ?_
    refine wa_sld (k := 5 * n + 1) hx hb hX hbl hbA hS (by omega) (by omega) d_lw_403 ?_
    refine hh_V0 (hn := 1) (As := [.int (xs (5 * n + 1))]) (rest := [])  hx hb hml hown hts  (c_hh_size_x l D cI cT cP h r (xs (5 * n + 1)) hq ) km_lw_44 ki_hh_size ks_hh_size kn_hh kc_hh_size (by decide +kernel) rfl ⟨Nat.le_of_ble_eq_true rfl, Nat.le_of_ble_eq_true rfl⟩ hK hP hD hS hA hl.1 rfl (Nat.le_of_ble_eq_true rfl) d_lw_404 ⟨by omega, by omega⟩ (fun v u H locs hpost hP hD hS => ?_)
    subst hpost
    refine W.eq (g2 := F0 m 407 ls [.int (-1)]) rfl ?_
    refine lv_aload_n hx hb d_lw_407 rfl (lv_at hl 2 rfl) ?_
    refine lv_aload_n hx hb d_lw_408 rfl (lv_at hl 0 rfl) ?_
    refine lv_iload_n hx hb d_lw_409 rfl (lv_at hl 3 rfl) ?_
    refine lv_iconst (v := 1) hx hb d_lw_410 (by decide) ?_
    refine lv_iadd hx hb d_lw_411 ?_
    refine tp_i (y := nI (5 * n + 1)) (nI_add (5 * n) 1) ?_
    refine wa_sld (k := 5 * n + 1) hx hb hX hbl hbA hS (by omega) (by omega) d_lw_412 ?_
    refine md_V0 (hn := 1) (As := [.int (xs (5 * n + 1))]) (rest := [.int (-1)])  hx hb hml hown hts  (c_md_size_x l D cI cT cP h2 r2 (xs (5 * n + 1)) hq ) km_lw_48 ki_md_size ks_md_size kn_md kc_md_size (by decide +kernel) rfl ⟨Nat.le_of_ble_eq_true rfl, Nat.le_of_ble_eq_true rfl⟩ hK hP hD hS hA hl.1 rfl (Nat.le_of_ble_eq_true rfl) d_lw_413 ⟨by omega, by omega⟩ (fun v u H locs hpost hP hD hS => ?_)
    subst hpost
    refine W.eq (g2 := F0 m 416 ls [.int (-1), .int (-1)]) rfl ?_
    refine lv_icmp_eq (tgt := 707) hx hb d_lw_416 (by decide) (fun _ => ?_) (fun z9 => absurd rfl z9)
    refine W.widen (k := 43 + cA_ jj + cR ii) (n := 596 + sA_ jj + sR ii) (by omega) (by omega) ?_
    exact hN _ _ _ _ _ (li_mono hI hn1) _ _ hP hD hS ls hl
  · have hjA := Nat.le_refl (jj km)
    have hiA := Nat.le_refl (ii km)
    have hu1 := cA_up hkm hjA
    have hu2 := sA_up hkm hjA
    have hu3 := cR_up hkm hiA
    have hu4 := sR_up hkm hiA
    refine lv_aload_n hx hb d_lw_398 rfl (lv_at hl 1 rfl) ?_
    refine lv_aload_n hx hb d_lw_399 rfl (lv_at hl 0 rfl) ?_
    refine lv_iload_n hx hb d_lw_400 rfl (lv_at hl 3 rfl) ?_
    refine lv_iconst (v := 1) hx hb d_lw_401 (by decide) ?_
    refine lv_iadd hx hb d_lw_402 ?_
    refine tp_i (y := nI (5 * n + 1)) (nI_add (5 * n) 1) ?_
    refine wa_sld (k := 5 * n + 1) hx hb hX hbl hbA hS (by omega) (by omega) d_lw_403 ?_
    refine tp_i (y := nI km) e1 ?_
    refine hh_V (hn := 1) (As := [.int (nI km)]) (rest := []) (k := km) (jn := jj km) (gu := fun _ => uu km) hx hb hml hown hts hkm (c_hh_size l D cI cT cP h r ft km hkm (a km) (hft km hkm) (decide (km = 2)) (jj km) (LL km) (uu km) (hI.1 km hkm).1 ) km_lw_44 ki_hh_size ks_hh_size kn_hh kc_hh_size (by decide +kernel) rfl ⟨Nat.le_of_ble_eq_true rfl, Nat.le_of_ble_eq_true rfl⟩ hK hP hD hS hA hl.1 rfl (Nat.le_of_ble_eq_true rfl) d_lw_404 ⟨by omega, by omega⟩ (fun v u9 H locs hpost hP hD hS => ?_)
    subst hpost
    refine W.eq (g2 := F0 m 407 ls [.int (nI (LL km).length)]) rfl ?_
    refine lv_aload_n hx hb d_lw_407 rfl (lv_at hl 2 rfl) ?_
    refine lv_aload_n hx hb d_lw_408 rfl (lv_at hl 0 rfl) ?_
    refine lv_iload_n hx hb d_lw_409 rfl (lv_at hl 3 rfl) ?_
    refine lv_iconst (v := 1) hx hb d_lw_410 (by decide) ?_
    refine lv_iadd hx hb d_lw_411 ?_
    refine tp_i (y := nI (5 * n + 1)) (nI_add (5 * n) 1) ?_
    refine wa_sld (k := 5 * n + 1) hx hb hX hbl hbA hS (by omega) (by omega) d_lw_412 ?_
    refine tp_i (y := nI km) e1 ?_
    refine md_V (hn := 1) (As := [.int (nI km)]) (rest := [.int (nI (LL km).length)]) (k := km) (jn := ii km) (gu := fun _ => vv km) hx hb hml hown hts hkm (c_md_size l D cI cT cP h2 r2 ft2 km hkm (g km) (hft2 km hkm) (ii km) (LL km) (vv km) (hI.1 km hkm).2.1 ) km_lw_48 ki_md_size ks_md_size kn_md kc_md_size (by decide +kernel) rfl ⟨Nat.le_of_ble_eq_true rfl, Nat.le_of_ble_eq_true rfl⟩ hK hP hD hS hA hl.1 rfl (Nat.le_of_ble_eq_true rfl) d_lw_413 ⟨by omega, by omega⟩ (fun v v9 H locs hpost hP hD hS => ?_)
    subst hpost
    refine W.eq (g2 := F0 m 416 ls [.int (nI (LL km).length), .int (nI (LL km).length)]) rfl ?_
    refine lv_icmp_eq (tgt := 707) hx hb d_lw_416 (by decide) (fun _ => ?_) (fun z9 => absurd rfl z9)
    refine W.widen (k := 43 + cA_ (va_up jj km (jj km)) + cR (va_up ii km (ii km))) (n := 596 + sA_ (va_up jj km (jj km)) + sR (va_up ii km (ii km))) (by omega) (by omega) ?_
    exact hN _ _ _ _ _ (li_up hI hn1 km (L' := LL km) (hI.1 km hkm).1 (hI.1 km hkm).2.1 (by have := (hI.1 km hkm).2.2; omega)) _ _ hP hD hS ls hl
set_option maxRecDepth 100000 in
set_option maxHeartbeats 4000000 in
/-- clear -/
theorem cs_8 {L : Nat} {xs : Nat → Int32} (p : Program) (l : Launch) (e : Env) (s : State) (m : MethodId) (below : List Frame) (meth : Method) (c : Code) (D : va_G) (cI cT cP : ClassId) (b h r : Nat) (ft : Nat → Option Nat) (a : Nat → Nat) (h2 r2 : Nat) (ft2 : Nat → Option Nat) (g : Nat → Nat) (Q : State → Prop) (hx : p.tables.exec = Jvm.exec) (hb : c.code = code) (hml : c.maxLocals = 4) (hown : s.vm.findClass "HashHallLaw" = some m.cls) (hts : ∀ w ∈ al, w.before #[Value.ref b] s = true) (hX : va_X b L xs s s.heap) (hbl : b < s.heap.size) (hK : va_K D cls (ty3 cI cT cP) s) (hft : ∀ k, k < 3 → ft k = some (a k)) (hft2 : ∀ k, k < 3 → ft2 k = some (g k)) (hL : L ≤ 2560) (n : Nat) (hn5 : 5 * n + 5 ≤ L) (hN : LNx p l e s m below meth c D cI cT cP b h r ft a h2 r2 ft2 g Q (n + 1) (5 * n) 707) : LNx p l e s m below meth c D cI cT cP b h r ft a h2 r2 ft2 g Q n (5 * n) 421 := by
  intro LL jj uu ii vv hI H locs hP hD hS ls hl
  have hA : ∀ q : Nat, s.heap.size ≤ q → (fun q : Nat => s.heap.size ≤ q) q := fun _ h => h
  have hbA : ¬ (fun q : Nat => s.heap.size ≤ q) b := Nat.not_le.mpr hbl
  have hc1 := c_7 (jj := jj) (fun k hk => tl_7 (hI.1 k hk).1)
  have hc2 := c_7 (jj := ii) (fun k hk => pl_7 (hI.1 k hk).2.1)
  have hrc : 1000 ≤ room_1.cells := by decide
  have hrs : 400000 ≤ room_1.slots := by decide
  have hn1 : n + 1 ≤ 512 := by omega
  rcases bad_or (xs (5 * n + 1)) with hq | ⟨km, hkm, e1⟩
  · refine lv_aload_n hx hb d_lw_421 rfl (lv_at hl 1 rfl) ?_
    refine lv_aload_n hx hb d_lw_422 rfl (lv_at hl 0 rfl) ?_
    refine lv_iload_n hx hb d_lw_423 rfl (lv_at hl 3 rfl) ?_
    refine lv_iconst (v := 1) hx hb d_lw_424 (by decide) ?_
    refine lv_iadd hx hb d_lw_425 ?_
    refine tp_i (y := nI (5 * n + 1)) (nI_add (5 * n) 1) ?_
    refine wa_sld (k := 5 * n + 1) hx hb hX hbl hbA hS (by omega) (by omega) d_lw_426 ?_
    refine hh_V0 (hn := 1) (As := [.int (xs (5 * n + 1))]) (rest := [])  hx hb hml hown hts  (c_hh_clear_x l D cI cT cP h r (xs (5 * n + 1)) hq ) km_lw_49 ki_hh_clear ks_hh_clear kn_hh kc_hh_clear (by decide +kernel) rfl ⟨Nat.le_of_ble_eq_true rfl, Nat.le_of_ble_eq_true rfl⟩ hK hP hD hS hA hl.1 rfl (Nat.le_of_ble_eq_true rfl) d_lw_427 ⟨by omega, by omega⟩ (fun v u H locs hpost hP hD hS => ?_)
    subst hpost
    refine W.eq (g2 := F0 m 430 ls [.int (-1)]) rfl ?_
    refine lv_aload_n hx hb d_lw_430 rfl (lv_at hl 2 rfl) ?_
    refine lv_aload_n hx hb d_lw_431 rfl (lv_at hl 0 rfl) ?_
    refine lv_iload_n hx hb d_lw_432 rfl (lv_at hl 3 rfl) ?_
    refine lv_iconst (v := 1) hx hb d_lw_433 (by decide) ?_
    refine lv_iadd hx hb d_lw_434 ?_
    refine tp_i (y := nI (5 * n + 1)) (nI_add (5 * n) 1) ?_
    refine wa_sld (k := 5 * n + 1) hx hb hX hbl hbA hS (by omega) (by omega) d_lw_435 ?_
    refine md_V0 (hn := 1) (As := [.int (xs (5 * n + 1))]) (rest := [.int (-1)])  hx hb hml hown hts  (c_md_clear_x l D cI cT cP h2 r2 (xs (5 * n + 1)) hq ) km_lw_52 ki_md_clear ks_md_clear kn_md kc_md_clear (by decide +kernel) rfl ⟨Nat.le_of_ble_eq_true rfl, Nat.le_of_ble_eq_true rfl⟩ hK hP hD hS hA hl.1 rfl (Nat.le_of_ble_eq_true rfl) d_lw_436 ⟨by omega, by omega⟩ (fun v u H locs hpost hP hD hS => ?_)
    subst hpost
    refine W.eq (g2 := F0 m 439 ls [.int (-1), .int (-1)]) rfl ?_
    refine lv_icmp_eq (tgt := 707) hx hb d_lw_439 (by decide) (fun _ => ?_) (fun z9 => absurd rfl z9)
    refine W.widen (k := 43 + cA_ jj + cR ii) (n := 596 + sA_ jj + sR ii) (by omega) (by omega) ?_
    exact hN _ _ _ _ _ (li_mono hI hn1) _ _ hP hD hS ls hl
  · have hjA := Nat.le_refl (jj km)
    have hiA := Nat.le_refl (ii km)
    have hu1 := cA_up hkm hjA
    have hu2 := sA_up hkm hjA
    have hu3 := cR_up hkm hiA
    have hu4 := sR_up hkm hiA
    refine lv_aload_n hx hb d_lw_421 rfl (lv_at hl 1 rfl) ?_
    refine lv_aload_n hx hb d_lw_422 rfl (lv_at hl 0 rfl) ?_
    refine lv_iload_n hx hb d_lw_423 rfl (lv_at hl 3 rfl) ?_
    refine lv_iconst (v := 1) hx hb d_lw_424 (by decide) ?_
    refine lv_iadd hx hb d_lw_425 ?_
    refine tp_i (y := nI (5 * n + 1)) (nI_add (5 * n) 1) ?_
    refine wa_sld (k := 5 * n + 1) hx hb hX hbl hbA hS (by omega) (by omega) d_lw_426 ?_
    refine tp_i (y := nI km) e1 ?_
    refine hh_V (hn := 1) (As := [.int (nI km)]) (rest := []) (k := km) (jn := jj km) (gu := fun u => u) hx hb hml hown hts hkm (c_hh_clear l D cI cT cP h r ft km hkm (a km) (hft km hkm) (decide (km = 2)) (jj km) (LL km) (uu km) (hI.1 km hkm).1 ) km_lw_49 ki_hh_clear ks_hh_clear kn_hh kc_hh_clear (by decide +kernel) rfl ⟨Nat.le_of_ble_eq_true rfl, Nat.le_of_ble_eq_true rfl⟩ hK hP hD hS hA hl.1 rfl (Nat.le_of_ble_eq_true rfl) d_lw_427 ⟨by omega, by omega⟩ (fun v u9 H locs hpost hP hD hS => ?_)
    obtain ⟨e9, hT9⟩ := hpost
    subst e9
    refine W.eq (g2 := F0 m 430 ls [.int (nI (LL km).length)]) rfl ?_
    refine lv_aload_n hx hb d_lw_430 rfl (lv_at hl 2 rfl) ?_
    refine lv_aload_n hx hb d_lw_431 rfl (lv_at hl 0 rfl) ?_
    refine lv_iload_n hx hb d_lw_432 rfl (lv_at hl 3 rfl) ?_
    refine lv_iconst (v := 1) hx hb d_lw_433 (by decide) ?_
    refine lv_iadd hx hb d_lw_434 ?_
    refine tp_i (y := nI (5 * n + 1)) (nI_add (5 * n) 1) ?_
    refine wa_sld (k := 5 * n + 1) hx hb hX hbl hbA hS (by omega) (by omega) d_lw_435 ?_
    refine tp_i (y := nI km) e1 ?_
    refine md_V (hn := 1) (As := [.int (nI km)]) (rest := [.int (nI (LL km).length)]) (k := km) (jn := ii km) (gu := fun u => u) hx hb hml hown hts hkm (c_md_clear l D cI cT cP h2 r2 ft2 km hkm (g km) (hft2 km hkm) (ii km) (LL km) (vv km) (hI.1 km hkm).2.1 ) km_lw_52 ki_md_clear ks_md_clear kn_md kc_md_clear (by decide +kernel) rfl ⟨Nat.le_of_ble_eq_true rfl, Nat.le_of_ble_eq_true rfl⟩ hK hP hD hS hA hl.1 rfl (Nat.le_of_ble_eq_true rfl) d_lw_436 ⟨by omega, by omega⟩ (fun v v9 H locs hpost hP hD hS => ?_)
    obtain ⟨e9, hP9⟩ := hpost
    subst e9
    refine W.eq (g2 := F0 m 439 ls [.int (nI (LL km).length), .int (nI (LL km).length)]) rfl ?_
    refine lv_icmp_eq (tgt := 707) hx hb d_lw_439 (by decide) (fun _ => ?_) (fun z9 => absurd rfl z9)
    refine W.widen (k := 43 + cA_ (va_up jj km (jj km)) + cR (va_up ii km (ii km))) (n := 596 + sA_ (va_up jj km (jj km)) + sR (va_up ii km (ii km))) (by omega) (by omega) ?_
    exact hN _ _ _ _ _ (li_up hI hn1 km (L' := []) hT9 hP9 (Nat.zero_le _)) _ _ hP hD hS ls hl
set_option maxRecDepth 100000 in
set_option maxHeartbeats 4000000 in
/-- entry -/
theorem cs_10 {L : Nat} {xs : Nat → Int32} (p : Program) (l : Launch) (e : Env) (s : State) (m : MethodId) (below : List Frame) (meth : Method) (c : Code) (D : va_G) (cI cT cP : ClassId) (b h r : Nat) (ft : Nat → Option Nat) (a : Nat → Nat) (h2 r2 : Nat) (ft2 : Nat → Option Nat) (g : Nat → Nat) (Q : State → Prop) (hx : p.tables.exec = Jvm.exec) (hb : c.code = code) (hml : c.maxLocals = 4) (hown : s.vm.findClass "HashHallLaw" = some m.cls) (hts : ∀ w ∈ al, w.before #[Value.ref b] s = true) (hX : va_X b L xs s s.heap) (hbl : b < s.heap.size) (hK : va_K D cls (ty3 cI cT cP) s) (hft : ∀ k, k < 3 → ft k = some (a k)) (hft2 : ∀ k, k < 3 → ft2 k = some (g k)) (hL : L ≤ 2560) (n : Nat) (hn5 : 5 * n + 5 ≤ L) (hN : LNx p l e s m below meth c D cI cT cP b h r ft a h2 r2 ft2 g Q (n + 1) (5 * n) 707) : LNx p l e s m below meth c D cI cT cP b h r ft a h2 r2 ft2 g Q n (5 * n) 477 := by
  intro LL jj uu ii vv hI H locs hP hD hS ls hl
  have hA : ∀ q : Nat, s.heap.size ≤ q → (fun q : Nat => s.heap.size ≤ q) q := fun _ h => h
  have hbA : ¬ (fun q : Nat => s.heap.size ≤ q) b := Nat.not_le.mpr hbl
  have hc1 := c_7 (jj := jj) (fun k hk => tl_7 (hI.1 k hk).1)
  have hc2 := c_7 (jj := ii) (fun k hk => pl_7 (hI.1 k hk).2.1)
  have hrc : 1000 ≤ room_1.cells := by decide
  have hrs : 400000 ≤ room_1.slots := by decide
  have hn1 : n + 1 ≤ 512 := by omega
  rcases bad_or (xs (5 * n + 1)) with hq | ⟨km, hkm, e1⟩
  · refine lv_aload_n hx hb d_lw_477 rfl (lv_at hl 1 rfl) ?_
    refine lv_aload_n hx hb d_lw_478 rfl (lv_at hl 0 rfl) ?_
    refine lv_iload_n hx hb d_lw_479 rfl (lv_at hl 3 rfl) ?_
    refine lv_iconst (v := 1) hx hb d_lw_480 (by decide) ?_
    refine lv_iadd hx hb d_lw_481 ?_
    refine tp_i (y := nI (5 * n + 1)) (nI_add (5 * n) 1) ?_
    refine wa_sld (k := 5 * n + 1) hx hb hX hbl hbA hS (by omega) (by omega) d_lw_482 ?_
    refine lv_aload_n hx hb d_lw_483 rfl (lv_at hl 0 rfl) ?_
    refine lv_iload_n hx hb d_lw_484 rfl (lv_at hl 3 rfl) ?_
    refine lv_iconst (v := 2) hx hb d_lw_485 (by decide) ?_
    refine lv_iadd hx hb d_lw_486 ?_
    refine tp_i (y := nI (5 * n + 2)) (nI_add (5 * n) 2) ?_
    refine wa_sld (k := 5 * n + 2) hx hb hX hbl hbA hS (by omega) (by omega) d_lw_487 ?_
    refine lv_aload_n hx hb d_lw_488 rfl (lv_at hl 0 rfl) ?_
    refine lv_iload_n hx hb d_lw_489 rfl (lv_at hl 3 rfl) ?_
    refine lv_iconst (v := 3) hx hb d_lw_490 (by decide) ?_
    refine lv_iadd hx hb d_lw_491 ?_
    refine tp_i (y := nI (5 * n + 3)) (nI_add (5 * n) 3) ?_
    refine wa_sld (k := 5 * n + 3) hx hb hX hbl hbA hS (by omega) (by omega) d_lw_492 ?_
    refine hh_V0 (hn := 3) (As := [.int (xs (5 * n + 1)), .int (xs (5 * n + 2)), .int (xs (5 * n + 3))]) (rest := [])  hx hb hml hown hts  (c_hh_entry_x l D cI cT cP h r (xs (5 * n + 1)) hq (xs (5 * n + 2)) (xs (5 * n + 3))) km_lw_58 ki_hh_entry ks_hh_entry kn_hh kc_hh_entry (by decide +kernel) rfl ⟨Nat.le_of_ble_eq_true rfl, Nat.le_of_ble_eq_true rfl⟩ hK hP hD hS hA hl.1 rfl (Nat.le_of_ble_eq_true rfl) d_lw_493 ⟨by omega, by omega⟩ (fun v u H locs hpost hP hD hS => ?_)
    subst hpost
    refine W.eq (g2 := F0 m 496 ls [.long 1099511627777]) rfl ?_
    refine lv_aload_n hx hb d_lw_496 rfl (lv_at hl 2 rfl) ?_
    refine lv_aload_n hx hb d_lw_497 rfl (lv_at hl 0 rfl) ?_
    refine lv_iload_n hx hb d_lw_498 rfl (lv_at hl 3 rfl) ?_
    refine lv_iconst (v := 1) hx hb d_lw_499 (by decide) ?_
    refine lv_iadd hx hb d_lw_500 ?_
    refine tp_i (y := nI (5 * n + 1)) (nI_add (5 * n) 1) ?_
    refine wa_sld (k := 5 * n + 1) hx hb hX hbl hbA hS (by omega) (by omega) d_lw_501 ?_
    refine lv_aload_n hx hb d_lw_502 rfl (lv_at hl 0 rfl) ?_
    refine lv_iload_n hx hb d_lw_503 rfl (lv_at hl 3 rfl) ?_
    refine lv_iconst (v := 2) hx hb d_lw_504 (by decide) ?_
    refine lv_iadd hx hb d_lw_505 ?_
    refine tp_i (y := nI (5 * n + 2)) (nI_add (5 * n) 2) ?_
    refine wa_sld (k := 5 * n + 2) hx hb hX hbl hbA hS (by omega) (by omega) d_lw_506 ?_
    refine lv_aload_n hx hb d_lw_507 rfl (lv_at hl 0 rfl) ?_
    refine lv_iload_n hx hb d_lw_508 rfl (lv_at hl 3 rfl) ?_
    refine lv_iconst (v := 3) hx hb d_lw_509 (by decide) ?_
    refine lv_iadd hx hb d_lw_510 ?_
    refine tp_i (y := nI (5 * n + 3)) (nI_add (5 * n) 3) ?_
    refine wa_sld (k := 5 * n + 3) hx hb hX hbl hbA hS (by omega) (by omega) d_lw_511 ?_
    refine md_V0 (hn := 3) (As := [.int (xs (5 * n + 1)), .int (xs (5 * n + 2)), .int (xs (5 * n + 3))]) (rest := [.long 1099511627777])  hx hb hml hown hts  (c_md_entry_x l D cI cT cP h2 r2 (xs (5 * n + 1)) hq (xs (5 * n + 2)) (xs (5 * n + 3))) km_lw_61 ki_md_entry ks_md_entry kn_md kc_md_entry (by decide +kernel) rfl ⟨Nat.le_of_ble_eq_true rfl, Nat.le_of_ble_eq_true rfl⟩ hK hP hD hS hA hl.1 rfl (Nat.le_of_ble_eq_true rfl) d_lw_512 ⟨by omega, by omega⟩ (fun v u H locs hpost hP hD hS => ?_)
    subst hpost
    refine W.eq (g2 := F0 m 515 ls [.long 1099511627777, .long 1099511627777]) rfl ?_
    refine W.lcmp hx hb d_lw_515 ?_
    refine lv_if_eq (tgt := 707) hx hb d_lw_516 (by decide) (fun _ => ?_) (fun z9 => absurd (lg_eq.mpr rfl) z9)
    refine W.widen (k := 43 + cA_ jj + cR ii) (n := 596 + sA_ jj + sR ii) (by omega) (by omega) ?_
    exact hN _ _ _ _ _ (li_mono hI hn1) _ _ hP hD hS ls hl
  · have hjA := Nat.le_refl (jj km)
    have hiA := Nat.le_refl (ii km)
    have hu1 := cA_up hkm hjA
    have hu2 := sA_up hkm hjA
    have hu3 := cR_up hkm hiA
    have hu4 := sR_up hkm hiA
    refine lv_aload_n hx hb d_lw_477 rfl (lv_at hl 1 rfl) ?_
    refine lv_aload_n hx hb d_lw_478 rfl (lv_at hl 0 rfl) ?_
    refine lv_iload_n hx hb d_lw_479 rfl (lv_at hl 3 rfl) ?_
    refine lv_iconst (v := 1) hx hb d_lw_480 (by decide) ?_
    refine lv_iadd hx hb d_lw_481 ?_
    refine tp_i (y := nI (5 * n + 1)) (nI_add (5 * n) 1) ?_
    refine wa_sld (k := 5 * n + 1) hx hb hX hbl hbA hS (by omega) (by omega) d_lw_482 ?_
    refine tp_i (y := nI km) e1 ?_
    refine lv_aload_n hx hb d_lw_483 rfl (lv_at hl 0 rfl) ?_
    refine lv_iload_n hx hb d_lw_484 rfl (lv_at hl 3 rfl) ?_
    refine lv_iconst (v := 2) hx hb d_lw_485 (by decide) ?_
    refine lv_iadd hx hb d_lw_486 ?_
    refine tp_i (y := nI (5 * n + 2)) (nI_add (5 * n) 2) ?_
    refine wa_sld (k := 5 * n + 2) hx hb hX hbl hbA hS (by omega) (by omega) d_lw_487 ?_
    refine lv_aload_n hx hb d_lw_488 rfl (lv_at hl 0 rfl) ?_
    refine lv_iload_n hx hb d_lw_489 rfl (lv_at hl 3 rfl) ?_
    refine lv_iconst (v := 3) hx hb d_lw_490 (by decide) ?_
    refine lv_iadd hx hb d_lw_491 ?_
    refine tp_i (y := nI (5 * n + 3)) (nI_add (5 * n) 3) ?_
    refine wa_sld (k := 5 * n + 3) hx hb hX hbl hbA hS (by omega) (by omega) d_lw_492 ?_
    refine hh_V (hn := 3) (As := [.int (nI km), .int (xs (5 * n + 2)), .int (xs (5 * n + 3))]) (rest := []) (k := km) (jn := jj km) (gu := fun _ => uu km) hx hb hml hown hts hkm (c_hh_entry l D cI cT cP h r ft km hkm (a km) (hft km hkm) (decide (km = 2)) (jj km) (LL km) (uu km) (hI.1 km hkm).1 (xs (5 * n + 2)) (xs (5 * n + 3))) km_lw_58 ki_hh_entry ks_hh_entry kn_hh kc_hh_entry (by decide +kernel) rfl ⟨Nat.le_of_ble_eq_true rfl, Nat.le_of_ble_eq_true rfl⟩ hK hP hD hS hA hl.1 rfl (Nat.le_of_ble_eq_true rfl) d_lw_493 ⟨by omega, by omega⟩ (fun v u9 H locs hpost hP hD hS => ?_)
    subst hpost
    refine W.eq (g2 := F0 m 496 ls [.long (ey km (xs (5 * n + 3)) (xs (5 * n + 2)) (LL km))]) rfl ?_
    refine lv_aload_n hx hb d_lw_496 rfl (lv_at hl 2 rfl) ?_
    refine lv_aload_n hx hb d_lw_497 rfl (lv_at hl 0 rfl) ?_
    refine lv_iload_n hx hb d_lw_498 rfl (lv_at hl 3 rfl) ?_
    refine lv_iconst (v := 1) hx hb d_lw_499 (by decide) ?_
    refine lv_iadd hx hb d_lw_500 ?_
    refine tp_i (y := nI (5 * n + 1)) (nI_add (5 * n) 1) ?_
    refine wa_sld (k := 5 * n + 1) hx hb hX hbl hbA hS (by omega) (by omega) d_lw_501 ?_
    refine tp_i (y := nI km) e1 ?_
    refine lv_aload_n hx hb d_lw_502 rfl (lv_at hl 0 rfl) ?_
    refine lv_iload_n hx hb d_lw_503 rfl (lv_at hl 3 rfl) ?_
    refine lv_iconst (v := 2) hx hb d_lw_504 (by decide) ?_
    refine lv_iadd hx hb d_lw_505 ?_
    refine tp_i (y := nI (5 * n + 2)) (nI_add (5 * n) 2) ?_
    refine wa_sld (k := 5 * n + 2) hx hb hX hbl hbA hS (by omega) (by omega) d_lw_506 ?_
    refine lv_aload_n hx hb d_lw_507 rfl (lv_at hl 0 rfl) ?_
    refine lv_iload_n hx hb d_lw_508 rfl (lv_at hl 3 rfl) ?_
    refine lv_iconst (v := 3) hx hb d_lw_509 (by decide) ?_
    refine lv_iadd hx hb d_lw_510 ?_
    refine tp_i (y := nI (5 * n + 3)) (nI_add (5 * n) 3) ?_
    refine wa_sld (k := 5 * n + 3) hx hb hX hbl hbA hS (by omega) (by omega) d_lw_511 ?_
    refine md_V (hn := 3) (As := [.int (nI km), .int (xs (5 * n + 2)), .int (xs (5 * n + 3))]) (rest := [.long (ey km (xs (5 * n + 3)) (xs (5 * n + 2)) (LL km))]) (k := km) (jn := ii km) (gu := fun _ => vv km) hx hb hml hown hts hkm (c_md_entry l D cI cT cP h2 r2 ft2 km hkm (g km) (hft2 km hkm) (ii km) (LL km) (vv km) (hI.1 km hkm).2.1 (xs (5 * n + 2)) (xs (5 * n + 3))) km_lw_61 ki_md_entry ks_md_entry kn_md kc_md_entry (by decide +kernel) rfl ⟨Nat.le_of_ble_eq_true rfl, Nat.le_of_ble_eq_true rfl⟩ hK hP hD hS hA hl.1 rfl (Nat.le_of_ble_eq_true rfl) d_lw_512 ⟨by omega, by omega⟩ (fun v v9 H locs hpost hP hD hS => ?_)
    subst hpost
    refine W.eq (g2 := F0 m 515 ls [.long (ey km (xs (5 * n + 3)) (xs (5 * n + 2)) (LL km)), .long (ey km (xs (5 * n + 3)) (xs (5 * n + 2)) (LL km))]) rfl ?_
    refine W.lcmp hx hb d_lw_515 ?_
    refine lv_if_eq (tgt := 707) hx hb d_lw_516 (by decide) (fun _ => ?_) (fun z9 => absurd (lg_eq.mpr rfl) z9)
    refine W.widen (k := 43 + cA_ (va_up jj km (jj km)) + cR (va_up ii km (ii km))) (n := 596 + sA_ (va_up jj km (jj km)) + sR (va_up ii km (ii km))) (by omega) (by omega) ?_
    exact hN _ _ _ _ _ (li_up hI hn1 km (L' := LL km) (hI.1 km hkm).1 (hI.1 km hkm).2.1 (by have := (hI.1 km hkm).2.2; omega)) _ _ hP hD hS ls hl
set_option maxRecDepth 100000 in
set_option maxHeartbeats 4000000 in
/-- sum -/
theorem cs_11 {L : Nat} {xs : Nat → Int32} (p : Program) (l : Launch) (e : Env) (s : State) (m : MethodId) (below : List Frame) (meth : Method) (c : Code) (D : va_G) (cI cT cP : ClassId) (b h r : Nat) (ft : Nat → Option Nat) (a : Nat → Nat) (h2 r2 : Nat) (ft2 : Nat → Option Nat) (g : Nat → Nat) (Q : State → Prop) (hx : p.tables.exec = Jvm.exec) (hb : c.code = code) (hml : c.maxLocals = 4) (hown : s.vm.findClass "HashHallLaw" = some m.cls) (hts : ∀ w ∈ al, w.before #[Value.ref b] s = true) (hX : va_X b L xs s s.heap) (hbl : b < s.heap.size) (hK : va_K D cls (ty3 cI cT cP) s) (hft : ∀ k, k < 3 → ft k = some (a k)) (hft2 : ∀ k, k < 3 → ft2 k = some (g k)) (hL : L ≤ 2560) (n : Nat) (hn5 : 5 * n + 5 ≤ L) (hN : LNx p l e s m below meth c D cI cT cP b h r ft a h2 r2 ft2 g Q (n + 1) (5 * n) 707) : LNx p l e s m below meth c D cI cT cP b h r ft a h2 r2 ft2 g Q n (5 * n) 521 := by
  intro LL jj uu ii vv hI H locs hP hD hS ls hl
  have hA : ∀ q : Nat, s.heap.size ≤ q → (fun q : Nat => s.heap.size ≤ q) q := fun _ h => h
  have hbA : ¬ (fun q : Nat => s.heap.size ≤ q) b := Nat.not_le.mpr hbl
  have hc1 := c_7 (jj := jj) (fun k hk => tl_7 (hI.1 k hk).1)
  have hc2 := c_7 (jj := ii) (fun k hk => pl_7 (hI.1 k hk).2.1)
  have hrc : 1000 ≤ room_1.cells := by decide
  have hrs : 400000 ≤ room_1.slots := by decide
  have hn1 : n + 1 ≤ 512 := by omega
  rcases bad_or (xs (5 * n + 1)) with hq | ⟨km, hkm, e1⟩
  · refine lv_aload_n hx hb d_lw_521 rfl (lv_at hl 1 rfl) ?_
    refine lv_aload_n hx hb d_lw_522 rfl (lv_at hl 0 rfl) ?_
    refine lv_iload_n hx hb d_lw_523 rfl (lv_at hl 3 rfl) ?_
    refine lv_iconst (v := 1) hx hb d_lw_524 (by decide) ?_
    refine lv_iadd hx hb d_lw_525 ?_
    refine tp_i (y := nI (5 * n + 1)) (nI_add (5 * n) 1) ?_
    refine wa_sld (k := 5 * n + 1) hx hb hX hbl hbA hS (by omega) (by omega) d_lw_526 ?_
    refine hh_V0 (hn := 1) (As := [.int (xs (5 * n + 1))]) (rest := [])  hx hb hml hown hts  (c_hh_sum_x l D cI cT cP h r (xs (5 * n + 1)) hq ) km_lw_62 ki_hh_sum ks_hh_sum kn_hh kc_hh_sum (by decide +kernel) rfl ⟨Nat.le_of_ble_eq_true rfl, Nat.le_of_ble_eq_true rfl⟩ hK hP hD hS hA hl.1 rfl (Nat.le_of_ble_eq_true rfl) d_lw_527 ⟨by omega, by omega⟩ (fun v u H locs hpost hP hD hS => ?_)
    subst hpost
    refine W.eq (g2 := F0 m 530 ls [.long 1099511627777]) rfl ?_
    refine lv_aload_n hx hb d_lw_530 rfl (lv_at hl 2 rfl) ?_
    refine lv_aload_n hx hb d_lw_531 rfl (lv_at hl 0 rfl) ?_
    refine lv_iload_n hx hb d_lw_532 rfl (lv_at hl 3 rfl) ?_
    refine lv_iconst (v := 1) hx hb d_lw_533 (by decide) ?_
    refine lv_iadd hx hb d_lw_534 ?_
    refine tp_i (y := nI (5 * n + 1)) (nI_add (5 * n) 1) ?_
    refine wa_sld (k := 5 * n + 1) hx hb hX hbl hbA hS (by omega) (by omega) d_lw_535 ?_
    refine md_V0 (hn := 1) (As := [.int (xs (5 * n + 1))]) (rest := [.long 1099511627777])  hx hb hml hown hts  (c_md_sum_x l D cI cT cP h2 r2 (xs (5 * n + 1)) hq ) km_lw_66 ki_md_sum ks_md_sum kn_md kc_md_sum (by decide +kernel) rfl ⟨Nat.le_of_ble_eq_true rfl, Nat.le_of_ble_eq_true rfl⟩ hK hP hD hS hA hl.1 rfl (Nat.le_of_ble_eq_true rfl) d_lw_536 ⟨by omega, by omega⟩ (fun v u H locs hpost hP hD hS => ?_)
    subst hpost
    refine W.eq (g2 := F0 m 539 ls [.long 1099511627777, .long 1099511627777]) rfl ?_
    refine W.lcmp hx hb d_lw_539 ?_
    refine lv_if_eq (tgt := 707) hx hb d_lw_540 (by decide) (fun _ => ?_) (fun z9 => absurd (lg_eq.mpr rfl) z9)
    refine W.widen (k := 43 + cA_ jj + cR ii) (n := 596 + sA_ jj + sR ii) (by omega) (by omega) ?_
    exact hN _ _ _ _ _ (li_mono hI hn1) _ _ hP hD hS ls hl
  · have hjA := Nat.le_refl (jj km)
    have hiA := Nat.le_refl (ii km)
    have hu1 := cA_up hkm hjA
    have hu2 := sA_up hkm hjA
    have hu3 := cR_up hkm hiA
    have hu4 := sR_up hkm hiA
    refine lv_aload_n hx hb d_lw_521 rfl (lv_at hl 1 rfl) ?_
    refine lv_aload_n hx hb d_lw_522 rfl (lv_at hl 0 rfl) ?_
    refine lv_iload_n hx hb d_lw_523 rfl (lv_at hl 3 rfl) ?_
    refine lv_iconst (v := 1) hx hb d_lw_524 (by decide) ?_
    refine lv_iadd hx hb d_lw_525 ?_
    refine tp_i (y := nI (5 * n + 1)) (nI_add (5 * n) 1) ?_
    refine wa_sld (k := 5 * n + 1) hx hb hX hbl hbA hS (by omega) (by omega) d_lw_526 ?_
    refine tp_i (y := nI km) e1 ?_
    refine hh_V (hn := 1) (As := [.int (nI km)]) (rest := []) (k := km) (jn := jj km) (gu := fun _ => uu km) hx hb hml hown hts hkm (c_hh_sum l D cI cT cP h r ft km hkm (a km) (hft km hkm) (decide (km = 2)) (jj km) (LL km) (uu km) (hI.1 km hkm).1 ) km_lw_62 ki_hh_sum ks_hh_sum kn_hh kc_hh_sum (by decide +kernel) rfl ⟨Nat.le_of_ble_eq_true rfl, Nat.le_of_ble_eq_true rfl⟩ hK hP hD hS hA hl.1 rfl (Nat.le_of_ble_eq_true rfl) d_lw_527 ⟨by omega, by omega⟩ (fun v u9 H locs hpost hP hD hS => ?_)
    subst hpost
    refine W.eq (g2 := F0 m 530 ls [.long (sm (LL km))]) rfl ?_
    refine lv_aload_n hx hb d_lw_530 rfl (lv_at hl 2 rfl) ?_
    refine lv_aload_n hx hb d_lw_531 rfl (lv_at hl 0 rfl) ?_
    refine lv_iload_n hx hb d_lw_532 rfl (lv_at hl 3 rfl) ?_
    refine lv_iconst (v := 1) hx hb d_lw_533 (by decide) ?_
    refine lv_iadd hx hb d_lw_534 ?_
    refine tp_i (y := nI (5 * n + 1)) (nI_add (5 * n) 1) ?_
    refine wa_sld (k := 5 * n + 1) hx hb hX hbl hbA hS (by omega) (by omega) d_lw_535 ?_
    refine tp_i (y := nI km) e1 ?_
    refine md_V (hn := 1) (As := [.int (nI km)]) (rest := [.long (sm (LL km))]) (k := km) (jn := ii km) (gu := fun _ => vv km) hx hb hml hown hts hkm (c_md_sum l D cI cT cP h2 r2 ft2 km hkm (g km) (hft2 km hkm) (ii km) (LL km) (vv km) (hI.1 km hkm).2.1 ) km_lw_66 ki_md_sum ks_md_sum kn_md kc_md_sum (by decide +kernel) rfl ⟨Nat.le_of_ble_eq_true rfl, Nat.le_of_ble_eq_true rfl⟩ hK hP hD hS hA hl.1 rfl (Nat.le_of_ble_eq_true rfl) d_lw_536 ⟨by omega, by omega⟩ (fun v v9 H locs hpost hP hD hS => ?_)
    subst hpost
    refine W.eq (g2 := F0 m 539 ls [.long (sm (LL km)), .long (sm (LL km))]) rfl ?_
    refine W.lcmp hx hb d_lw_539 ?_
    refine lv_if_eq (tgt := 707) hx hb d_lw_540 (by decide) (fun _ => ?_) (fun z9 => absurd (lg_eq.mpr rfl) z9)
    refine W.widen (k := 43 + cA_ (va_up jj km (jj km)) + cR (va_up ii km (ii km))) (n := 596 + sA_ (va_up jj km (jj km)) + sR (va_up ii km (ii km))) (by omega) (by omega) ?_
    exact hN _ _ _ _ _ (li_up hI hn1 km (L' := LL km) (hI.1 km hkm).1 (hI.1 km hkm).2.1 (by have := (hI.1 km hkm).2.2; omega)) _ _ hP hD hS ls hl
set_option maxRecDepth 100000 in
set_option maxHeartbeats 4000000 in
/-- sweep -/
theorem cs_12 {L : Nat} {xs : Nat → Int32} (p : Program) (l : Launch) (e : Env) (s : State) (m : MethodId) (below : List Frame) (meth : Method) (c : Code) (D : va_G) (cI cT cP : ClassId) (b h r : Nat) (ft : Nat → Option Nat) (a : Nat → Nat) (h2 r2 : Nat) (ft2 : Nat → Option Nat) (g : Nat → Nat) (Q : State → Prop) (hx : p.tables.exec = Jvm.exec) (hb : c.code = code) (hml : c.maxLocals = 4) (hown : s.vm.findClass "HashHallLaw" = some m.cls) (hts : ∀ w ∈ al, w.before #[Value.ref b] s = true) (hX : va_X b L xs s s.heap) (hbl : b < s.heap.size) (hK : va_K D cls (ty3 cI cT cP) s) (hft : ∀ k, k < 3 → ft k = some (a k)) (hft2 : ∀ k, k < 3 → ft2 k = some (g k)) (hL : L ≤ 2560) (n : Nat) (hn5 : 5 * n + 5 ≤ L) (hN : LNx p l e s m below meth c D cI cT cP b h r ft a h2 r2 ft2 g Q (n + 1) (5 * n) 707) : LNx p l e s m below meth c D cI cT cP b h r ft a h2 r2 ft2 g Q n (5 * n) 545 := by
  intro LL jj uu ii vv hI H locs hP hD hS ls hl
  have hA : ∀ q : Nat, s.heap.size ≤ q → (fun q : Nat => s.heap.size ≤ q) q := fun _ h => h
  have hbA : ¬ (fun q : Nat => s.heap.size ≤ q) b := Nat.not_le.mpr hbl
  have hc1 := c_7 (jj := jj) (fun k hk => tl_7 (hI.1 k hk).1)
  have hc2 := c_7 (jj := ii) (fun k hk => pl_7 (hI.1 k hk).2.1)
  have hrc : 1000 ≤ room_1.cells := by decide
  have hrs : 400000 ≤ room_1.slots := by decide
  have hn1 : n + 1 ≤ 512 := by omega
  rcases bad_or (xs (5 * n + 1)) with hq | ⟨km, hkm, e1⟩
  · refine lv_aload_n hx hb d_lw_545 rfl (lv_at hl 1 rfl) ?_
    refine lv_aload_n hx hb d_lw_546 rfl (lv_at hl 0 rfl) ?_
    refine lv_iload_n hx hb d_lw_547 rfl (lv_at hl 3 rfl) ?_
    refine lv_iconst (v := 1) hx hb d_lw_548 (by decide) ?_
    refine lv_iadd hx hb d_lw_549 ?_
    refine tp_i (y := nI (5 * n + 1)) (nI_add (5 * n) 1) ?_
    refine wa_sld (k := 5 * n + 1) hx hb hX hbl hbA hS (by omega) (by omega) d_lw_550 ?_
    refine lv_aload_n hx hb d_lw_551 rfl (lv_at hl 0 rfl) ?_
    refine lv_iload_n hx hb d_lw_552 rfl (lv_at hl 3 rfl) ?_
    refine lv_iconst (v := 2) hx hb d_lw_553 (by decide) ?_
    refine lv_iadd hx hb d_lw_554 ?_
    refine tp_i (y := nI (5 * n + 2)) (nI_add (5 * n) 2) ?_
    refine wa_sld (k := 5 * n + 2) hx hb hX hbl hbA hS (by omega) (by omega) d_lw_555 ?_
    refine lv_aload_n hx hb d_lw_556 rfl (lv_at hl 0 rfl) ?_
    refine lv_iload_n hx hb d_lw_557 rfl (lv_at hl 3 rfl) ?_
    refine lv_iconst (v := 3) hx hb d_lw_558 (by decide) ?_
    refine lv_iadd hx hb d_lw_559 ?_
    refine tp_i (y := nI (5 * n + 3)) (nI_add (5 * n) 3) ?_
    refine wa_sld (k := 5 * n + 3) hx hb hX hbl hbA hS (by omega) (by omega) d_lw_560 ?_
    refine hh_V0 (hn := 3) (As := [.int (xs (5 * n + 1)), .int (xs (5 * n + 2)), .int (xs (5 * n + 3))]) (rest := [])  hx hb hml hown hts  (c_hh_sweep_x l D cI cT cP h r (xs (5 * n + 1)) hq (xs (5 * n + 2)) (xs (5 * n + 3))) km_lw_67 ki_hh_sweep ks_hh_sweep kn_hh kc_hh_sweep (by decide +kernel) rfl ⟨Nat.le_of_ble_eq_true rfl, Nat.le_of_ble_eq_true rfl⟩ hK hP hD hS hA hl.1 rfl (Nat.le_of_ble_eq_true rfl) d_lw_561 ⟨by omega, by omega⟩ (fun v u H locs hpost hP hD hS => ?_)
    subst hpost
    refine W.eq (g2 := F0 m 564 ls [.int (-1)]) rfl ?_
    refine lv_aload_n hx hb d_lw_564 rfl (lv_at hl 2 rfl) ?_
    refine lv_aload_n hx hb d_lw_565 rfl (lv_at hl 0 rfl) ?_
    refine lv_iload_n hx hb d_lw_566 rfl (lv_at hl 3 rfl) ?_
    refine lv_iconst (v := 1) hx hb d_lw_567 (by decide) ?_
    refine lv_iadd hx hb d_lw_568 ?_
    refine tp_i (y := nI (5 * n + 1)) (nI_add (5 * n) 1) ?_
    refine wa_sld (k := 5 * n + 1) hx hb hX hbl hbA hS (by omega) (by omega) d_lw_569 ?_
    refine lv_aload_n hx hb d_lw_570 rfl (lv_at hl 0 rfl) ?_
    refine lv_iload_n hx hb d_lw_571 rfl (lv_at hl 3 rfl) ?_
    refine lv_iconst (v := 2) hx hb d_lw_572 (by decide) ?_
    refine lv_iadd hx hb d_lw_573 ?_
    refine tp_i (y := nI (5 * n + 2)) (nI_add (5 * n) 2) ?_
    refine wa_sld (k := 5 * n + 2) hx hb hX hbl hbA hS (by omega) (by omega) d_lw_574 ?_
    refine lv_aload_n hx hb d_lw_575 rfl (lv_at hl 0 rfl) ?_
    refine lv_iload_n hx hb d_lw_576 rfl (lv_at hl 3 rfl) ?_
    refine lv_iconst (v := 3) hx hb d_lw_577 (by decide) ?_
    refine lv_iadd hx hb d_lw_578 ?_
    refine tp_i (y := nI (5 * n + 3)) (nI_add (5 * n) 3) ?_
    refine wa_sld (k := 5 * n + 3) hx hb hX hbl hbA hS (by omega) (by omega) d_lw_579 ?_
    refine md_V0 (hn := 3) (As := [.int (xs (5 * n + 1)), .int (xs (5 * n + 2)), .int (xs (5 * n + 3))]) (rest := [.int (-1)])  hx hb hml hown hts  (c_md_sweep_x l D cI cT cP h2 r2 (xs (5 * n + 1)) hq (xs (5 * n + 2)) (xs (5 * n + 3))) km_lw_71 ki_md_sweep ks_md_sweep kn_md kc_md_sweep (by decide +kernel) rfl ⟨Nat.le_of_ble_eq_true rfl, Nat.le_of_ble_eq_true rfl⟩ hK hP hD hS hA hl.1 rfl (Nat.le_of_ble_eq_true rfl) d_lw_580 ⟨by omega, by omega⟩ (fun v u H locs hpost hP hD hS => ?_)
    subst hpost
    refine W.eq (g2 := F0 m 583 ls [.int (-1), .int (-1)]) rfl ?_
    refine lv_icmp_eq (tgt := 707) hx hb d_lw_583 (by decide) (fun _ => ?_) (fun z9 => absurd rfl z9)
    refine W.widen (k := 43 + cA_ jj + cR ii) (n := 596 + sA_ jj + sR ii) (by omega) (by omega) ?_
    exact hN _ _ _ _ _ (li_mono hI hn1) _ _ hP hD hS ls hl
  · have hjA := Nat.le_refl (jj km)
    have hiA := Nat.le_refl (ii km)
    have hu1 := cA_up hkm hjA
    have hu2 := sA_up hkm hjA
    have hu3 := cR_up hkm hiA
    have hu4 := sR_up hkm hiA
    refine lv_aload_n hx hb d_lw_545 rfl (lv_at hl 1 rfl) ?_
    refine lv_aload_n hx hb d_lw_546 rfl (lv_at hl 0 rfl) ?_
    refine lv_iload_n hx hb d_lw_547 rfl (lv_at hl 3 rfl) ?_
    refine lv_iconst (v := 1) hx hb d_lw_548 (by decide) ?_
    refine lv_iadd hx hb d_lw_549 ?_
    refine tp_i (y := nI (5 * n + 1)) (nI_add (5 * n) 1) ?_
    refine wa_sld (k := 5 * n + 1) hx hb hX hbl hbA hS (by omega) (by omega) d_lw_550 ?_
    refine tp_i (y := nI km) e1 ?_
    refine lv_aload_n hx hb d_lw_551 rfl (lv_at hl 0 rfl) ?_
    refine lv_iload_n hx hb d_lw_552 rfl (lv_at hl 3 rfl) ?_
    refine lv_iconst (v := 2) hx hb d_lw_553 (by decide) ?_
    refine lv_iadd hx hb d_lw_554 ?_
    refine tp_i (y := nI (5 * n + 2)) (nI_add (5 * n) 2) ?_
    refine wa_sld (k := 5 * n + 2) hx hb hX hbl hbA hS (by omega) (by omega) d_lw_555 ?_
    refine lv_aload_n hx hb d_lw_556 rfl (lv_at hl 0 rfl) ?_
    refine lv_iload_n hx hb d_lw_557 rfl (lv_at hl 3 rfl) ?_
    refine lv_iconst (v := 3) hx hb d_lw_558 (by decide) ?_
    refine lv_iadd hx hb d_lw_559 ?_
    refine tp_i (y := nI (5 * n + 3)) (nI_add (5 * n) 3) ?_
    refine wa_sld (k := 5 * n + 3) hx hb hX hbl hbA hS (by omega) (by omega) d_lw_560 ?_
    refine hh_V (hn := 3) (As := [.int (nI km), .int (xs (5 * n + 2)), .int (xs (5 * n + 3))]) (rest := []) (k := km) (jn := jj km) (gu := fun u => u) hx hb hml hown hts hkm (c_hh_sweep l D cI cT cP h r ft km hkm (a km) (hft km hkm) (decide (km = 2)) (jj km) (LL km) (uu km) (hI.1 km hkm).1 (xs (5 * n + 2)) (xs (5 * n + 3))) km_lw_67 ki_hh_sweep ks_hh_sweep kn_hh kc_hh_sweep (by decide +kernel) rfl ⟨Nat.le_of_ble_eq_true rfl, Nat.le_of_ble_eq_true rfl⟩ hK hP hD hS hA hl.1 rfl (Nat.le_of_ble_eq_true rfl) d_lw_561 ⟨by omega, by omega⟩ (fun v u9 H locs hpost hP hD hS => ?_)
    obtain ⟨e9, hT9⟩ := hpost
    subst e9
    refine W.eq (g2 := F0 m 564 ls [.int (swa (xs (5 * n + 2)) (xs (5 * n + 3)) (LL km))]) rfl ?_
    refine lv_aload_n hx hb d_lw_564 rfl (lv_at hl 2 rfl) ?_
    refine lv_aload_n hx hb d_lw_565 rfl (lv_at hl 0 rfl) ?_
    refine lv_iload_n hx hb d_lw_566 rfl (lv_at hl 3 rfl) ?_
    refine lv_iconst (v := 1) hx hb d_lw_567 (by decide) ?_
    refine lv_iadd hx hb d_lw_568 ?_
    refine tp_i (y := nI (5 * n + 1)) (nI_add (5 * n) 1) ?_
    refine wa_sld (k := 5 * n + 1) hx hb hX hbl hbA hS (by omega) (by omega) d_lw_569 ?_
    refine tp_i (y := nI km) e1 ?_
    refine lv_aload_n hx hb d_lw_570 rfl (lv_at hl 0 rfl) ?_
    refine lv_iload_n hx hb d_lw_571 rfl (lv_at hl 3 rfl) ?_
    refine lv_iconst (v := 2) hx hb d_lw_572 (by decide) ?_
    refine lv_iadd hx hb d_lw_573 ?_
    refine tp_i (y := nI (5 * n + 2)) (nI_add (5 * n) 2) ?_
    refine wa_sld (k := 5 * n + 2) hx hb hX hbl hbA hS (by omega) (by omega) d_lw_574 ?_
    refine lv_aload_n hx hb d_lw_575 rfl (lv_at hl 0 rfl) ?_
    refine lv_iload_n hx hb d_lw_576 rfl (lv_at hl 3 rfl) ?_
    refine lv_iconst (v := 3) hx hb d_lw_577 (by decide) ?_
    refine lv_iadd hx hb d_lw_578 ?_
    refine tp_i (y := nI (5 * n + 3)) (nI_add (5 * n) 3) ?_
    refine wa_sld (k := 5 * n + 3) hx hb hX hbl hbA hS (by omega) (by omega) d_lw_579 ?_
    refine md_V (hn := 3) (As := [.int (nI km), .int (xs (5 * n + 2)), .int (xs (5 * n + 3))]) (rest := [.int (swa (xs (5 * n + 2)) (xs (5 * n + 3)) (LL km))]) (k := km) (jn := ii km) (gu := fun u => u) hx hb hml hown hts hkm (c_md_sweep l D cI cT cP h2 r2 ft2 km hkm (g km) (hft2 km hkm) (ii km) (LL km) (vv km) (hI.1 km hkm).2.1 (xs (5 * n + 2)) (xs (5 * n + 3))) km_lw_71 ki_md_sweep ks_md_sweep kn_md kc_md_sweep (by decide +kernel) rfl ⟨Nat.le_of_ble_eq_true rfl, Nat.le_of_ble_eq_true rfl⟩ hK hP hD hS hA hl.1 rfl (Nat.le_of_ble_eq_true rfl) d_lw_580 ⟨by omega, by omega⟩ (fun v v9 H locs hpost hP hD hS => ?_)
    obtain ⟨e9, hP9⟩ := hpost
    subst e9
    refine W.eq (g2 := F0 m 583 ls [.int (swa (xs (5 * n + 2)) (xs (5 * n + 3)) (LL km)), .int (swa (xs (5 * n + 2)) (xs (5 * n + 3)) (LL km))]) rfl ?_
    refine lv_icmp_eq (tgt := 707) hx hb d_lw_583 (by decide) (fun _ => ?_) (fun z9 => absurd rfl z9)
    refine W.widen (k := 43 + cA_ (va_up jj km (jj km)) + cR (va_up ii km (ii km))) (n := 596 + sA_ (va_up jj km (jj km)) + sR (va_up ii km (ii km))) (by omega) (by omega) ?_
    exact hN _ _ _ _ _ (li_up hI hn1 km hT9 hP9 (Nat.le_trans swl_len (by have := (hI.1 km hkm).2.2; omega))) _ _ hP hD hS ls hl
set_option maxRecDepth 100000 in
set_option maxHeartbeats 4000000 in
/-- raise -/
theorem cs_13 {L : Nat} {xs : Nat → Int32} (p : Program) (l : Launch) (e : Env) (s : State) (m : MethodId) (below : List Frame) (meth : Method) (c : Code) (D : va_G) (cI cT cP : ClassId) (b h r : Nat) (ft : Nat → Option Nat) (a : Nat → Nat) (h2 r2 : Nat) (ft2 : Nat → Option Nat) (g : Nat → Nat) (Q : State → Prop) (hx : p.tables.exec = Jvm.exec) (hb : c.code = code) (hml : c.maxLocals = 4) (hown : s.vm.findClass "HashHallLaw" = some m.cls) (hts : ∀ w ∈ al, w.before #[Value.ref b] s = true) (hX : va_X b L xs s s.heap) (hbl : b < s.heap.size) (hK : va_K D cls (ty3 cI cT cP) s) (hft : ∀ k, k < 3 → ft k = some (a k)) (hft2 : ∀ k, k < 3 → ft2 k = some (g k)) (hL : L ≤ 2560) (n : Nat) (hn5 : 5 * n + 5 ≤ L) (hN : LNx p l e s m below meth c D cI cT cP b h r ft a h2 r2 ft2 g Q (n + 1) (5 * n) 707) : LNx p l e s m below meth c D cI cT cP b h r ft a h2 r2 ft2 g Q n (5 * n) 588 := by
  intro LL jj uu ii vv hI H locs hP hD hS ls hl
  have hA : ∀ q : Nat, s.heap.size ≤ q → (fun q : Nat => s.heap.size ≤ q) q := fun _ h => h
  have hbA : ¬ (fun q : Nat => s.heap.size ≤ q) b := Nat.not_le.mpr hbl
  have hc1 := c_7 (jj := jj) (fun k hk => tl_7 (hI.1 k hk).1)
  have hc2 := c_7 (jj := ii) (fun k hk => pl_7 (hI.1 k hk).2.1)
  have hrc : 1000 ≤ room_1.cells := by decide
  have hrs : 400000 ≤ room_1.slots := by decide
  have hn1 : n + 1 ≤ 512 := by omega
  rcases bad_or (xs (5 * n + 1)) with hq | ⟨km, hkm, e1⟩
  · refine lv_aload_n hx hb d_lw_588 rfl (lv_at hl 1 rfl) ?_
    refine lv_aload_n hx hb d_lw_589 rfl (lv_at hl 0 rfl) ?_
    refine lv_iload_n hx hb d_lw_590 rfl (lv_at hl 3 rfl) ?_
    refine lv_iconst (v := 1) hx hb d_lw_591 (by decide) ?_
    refine lv_iadd hx hb d_lw_592 ?_
    refine tp_i (y := nI (5 * n + 1)) (nI_add (5 * n) 1) ?_
    refine wa_sld (k := 5 * n + 1) hx hb hX hbl hbA hS (by omega) (by omega) d_lw_593 ?_
    refine lv_aload_n hx hb d_lw_594 rfl (lv_at hl 0 rfl) ?_
    refine lv_iload_n hx hb d_lw_595 rfl (lv_at hl 3 rfl) ?_
    refine lv_iconst (v := 2) hx hb d_lw_596 (by decide) ?_
    refine lv_iadd hx hb d_lw_597 ?_
    refine tp_i (y := nI (5 * n + 2)) (nI_add (5 * n) 2) ?_
    refine wa_sld (k := 5 * n + 2) hx hb hX hbl hbA hS (by omega) (by omega) d_lw_598 ?_
    refine hh_V0 (hn := 2) (As := [.int (xs (5 * n + 1)), .int (xs (5 * n + 2))]) (rest := [])  hx hb hml hown hts  (c_hh_raise_x l D cI cT cP h r (xs (5 * n + 1)) hq (xs (5 * n + 2))) km_lw_72 ki_hh_raise ks_hh_raise kn_hh kc_hh_raise (by decide +kernel) rfl ⟨Nat.le_of_ble_eq_true rfl, Nat.le_of_ble_eq_true rfl⟩ hK hP hD hS hA hl.1 rfl (Nat.le_of_ble_eq_true rfl) d_lw_599 ⟨by omega, by omega⟩ (fun v u H locs hpost hP hD hS => ?_)
    subst hpost
    refine W.eq (g2 := F0 m 602 ls [.int (-1)]) rfl ?_
    refine lv_aload_n hx hb d_lw_602 rfl (lv_at hl 2 rfl) ?_
    refine lv_aload_n hx hb d_lw_603 rfl (lv_at hl 0 rfl) ?_
    refine lv_iload_n hx hb d_lw_604 rfl (lv_at hl 3 rfl) ?_
    refine lv_iconst (v := 1) hx hb d_lw_605 (by decide) ?_
    refine lv_iadd hx hb d_lw_606 ?_
    refine tp_i (y := nI (5 * n + 1)) (nI_add (5 * n) 1) ?_
    refine wa_sld (k := 5 * n + 1) hx hb hX hbl hbA hS (by omega) (by omega) d_lw_607 ?_
    refine lv_aload_n hx hb d_lw_608 rfl (lv_at hl 0 rfl) ?_
    refine lv_iload_n hx hb d_lw_609 rfl (lv_at hl 3 rfl) ?_
    refine lv_iconst (v := 2) hx hb d_lw_610 (by decide) ?_
    refine lv_iadd hx hb d_lw_611 ?_
    refine tp_i (y := nI (5 * n + 2)) (nI_add (5 * n) 2) ?_
    refine wa_sld (k := 5 * n + 2) hx hb hX hbl hbA hS (by omega) (by omega) d_lw_612 ?_
    refine md_V0 (hn := 2) (As := [.int (xs (5 * n + 1)), .int (xs (5 * n + 2))]) (rest := [.int (-1)])  hx hb hml hown hts  (c_md_raise_x l D cI cT cP h2 r2 (xs (5 * n + 1)) hq (xs (5 * n + 2))) km_lw_75 ki_md_raise ks_md_raise kn_md kc_md_raise (by decide +kernel) rfl ⟨Nat.le_of_ble_eq_true rfl, Nat.le_of_ble_eq_true rfl⟩ hK hP hD hS hA hl.1 rfl (Nat.le_of_ble_eq_true rfl) d_lw_613 ⟨by omega, by omega⟩ (fun v u H locs hpost hP hD hS => ?_)
    subst hpost
    refine W.eq (g2 := F0 m 616 ls [.int (-1), .int (-1)]) rfl ?_
    refine lv_icmp_eq (tgt := 707) hx hb d_lw_616 (by decide) (fun _ => ?_) (fun z9 => absurd rfl z9)
    refine W.widen (k := 43 + cA_ jj + cR ii) (n := 596 + sA_ jj + sR ii) (by omega) (by omega) ?_
    exact hN _ _ _ _ _ (li_mono hI hn1) _ _ hP hD hS ls hl
  · have hjA := Nat.le_refl (jj km)
    have hiA := Nat.le_refl (ii km)
    have hu1 := cA_up hkm hjA
    have hu2 := sA_up hkm hjA
    have hu3 := cR_up hkm hiA
    have hu4 := sR_up hkm hiA
    refine lv_aload_n hx hb d_lw_588 rfl (lv_at hl 1 rfl) ?_
    refine lv_aload_n hx hb d_lw_589 rfl (lv_at hl 0 rfl) ?_
    refine lv_iload_n hx hb d_lw_590 rfl (lv_at hl 3 rfl) ?_
    refine lv_iconst (v := 1) hx hb d_lw_591 (by decide) ?_
    refine lv_iadd hx hb d_lw_592 ?_
    refine tp_i (y := nI (5 * n + 1)) (nI_add (5 * n) 1) ?_
    refine wa_sld (k := 5 * n + 1) hx hb hX hbl hbA hS (by omega) (by omega) d_lw_593 ?_
    refine tp_i (y := nI km) e1 ?_
    refine lv_aload_n hx hb d_lw_594 rfl (lv_at hl 0 rfl) ?_
    refine lv_iload_n hx hb d_lw_595 rfl (lv_at hl 3 rfl) ?_
    refine lv_iconst (v := 2) hx hb d_lw_596 (by decide) ?_
    refine lv_iadd hx hb d_lw_597 ?_
    refine tp_i (y := nI (5 * n + 2)) (nI_add (5 * n) 2) ?_
    refine wa_sld (k := 5 * n + 2) hx hb hX hbl hbA hS (by omega) (by omega) d_lw_598 ?_
    refine hh_V (hn := 2) (As := [.int (nI km), .int (xs (5 * n + 2))]) (rest := []) (k := km) (jn := jj km) (gu := fun u => u) hx hb hml hown hts hkm (c_hh_raise l D cI cT cP h r ft km hkm (a km) (hft km hkm) (decide (km = 2)) (jj km) (LL km) (uu km) (hI.1 km hkm).1 (xs (5 * n + 2))) km_lw_72 ki_hh_raise ks_hh_raise kn_hh kc_hh_raise (by decide +kernel) rfl ⟨Nat.le_of_ble_eq_true rfl, Nat.le_of_ble_eq_true rfl⟩ hK hP hD hS hA hl.1 rfl (Nat.le_of_ble_eq_true rfl) d_lw_599 ⟨by omega, by omega⟩ (fun v u9 H locs hpost hP hD hS => ?_)
    obtain ⟨e9, hT9⟩ := hpost
    subst e9
    refine W.eq (g2 := F0 m 602 ls [.int (nI (LL km).length)]) rfl ?_
    refine lv_aload_n hx hb d_lw_602 rfl (lv_at hl 2 rfl) ?_
    refine lv_aload_n hx hb d_lw_603 rfl (lv_at hl 0 rfl) ?_
    refine lv_iload_n hx hb d_lw_604 rfl (lv_at hl 3 rfl) ?_
    refine lv_iconst (v := 1) hx hb d_lw_605 (by decide) ?_
    refine lv_iadd hx hb d_lw_606 ?_
    refine tp_i (y := nI (5 * n + 1)) (nI_add (5 * n) 1) ?_
    refine wa_sld (k := 5 * n + 1) hx hb hX hbl hbA hS (by omega) (by omega) d_lw_607 ?_
    refine tp_i (y := nI km) e1 ?_
    refine lv_aload_n hx hb d_lw_608 rfl (lv_at hl 0 rfl) ?_
    refine lv_iload_n hx hb d_lw_609 rfl (lv_at hl 3 rfl) ?_
    refine lv_iconst (v := 2) hx hb d_lw_610 (by decide) ?_
    refine lv_iadd hx hb d_lw_611 ?_
    refine tp_i (y := nI (5 * n + 2)) (nI_add (5 * n) 2) ?_
    refine wa_sld (k := 5 * n + 2) hx hb hX hbl hbA hS (by omega) (by omega) d_lw_612 ?_
    refine md_V (hn := 2) (As := [.int (nI km), .int (xs (5 * n + 2))]) (rest := [.int (nI (LL km).length)]) (k := km) (jn := ii km) (gu := fun u => u) hx hb hml hown hts hkm (c_md_raise l D cI cT cP h2 r2 ft2 km hkm (g km) (hft2 km hkm) (ii km) (LL km) (vv km) (hI.1 km hkm).2.1 (xs (5 * n + 2))) km_lw_75 ki_md_raise ks_md_raise kn_md kc_md_raise (by decide +kernel) rfl ⟨Nat.le_of_ble_eq_true rfl, Nat.le_of_ble_eq_true rfl⟩ hK hP hD hS hA hl.1 rfl (Nat.le_of_ble_eq_true rfl) d_lw_613 ⟨by omega, by omega⟩ (fun v v9 H locs hpost hP hD hS => ?_)
    obtain ⟨e9, hP9⟩ := hpost
    subst e9
    refine W.eq (g2 := F0 m 616 ls [.int (nI (LL km).length), .int (nI (LL km).length)]) rfl ?_
    refine lv_icmp_eq (tgt := 707) hx hb d_lw_616 (by decide) (fun _ => ?_) (fun z9 => absurd rfl z9)
    refine W.widen (k := 43 + cA_ (va_up jj km (jj km)) + cR (va_up ii km (ii km))) (n := 596 + sA_ (va_up jj km (jj km)) + sR (va_up ii km (ii km))) (by omega) (by omega) ?_
    exact hN _ _ _ _ _ (li_up hI hn1 km hT9 hP9 (by rw [rs_len]; have := (hI.1 km hkm).2.2; omega)) _ _ hP hD hS ls hl
set_option maxRecDepth 100000 in
set_option maxHeartbeats 4000000 in
/-- fill -/
theorem cs_15 {L : Nat} {xs : Nat → Int32} (p : Program) (l : Launch) (e : Env) (s : State) (m : MethodId) (below : List Frame) (meth : Method) (c : Code) (D : va_G) (cI cT cP : ClassId) (b h r : Nat) (ft : Nat → Option Nat) (a : Nat → Nat) (h2 r2 : Nat) (ft2 : Nat → Option Nat) (g : Nat → Nat) (Q : State → Prop) (hx : p.tables.exec = Jvm.exec) (hb : c.code = code) (hml : c.maxLocals = 4) (hown : s.vm.findClass "HashHallLaw" = some m.cls) (hts : ∀ w ∈ al, w.before #[Value.ref b] s = true) (hX : va_X b L xs s s.heap) (hbl : b < s.heap.size) (hK : va_K D cls (ty3 cI cT cP) s) (hft : ∀ k, k < 3 → ft k = some (a k)) (hft2 : ∀ k, k < 3 → ft2 k = some (g k)) (hL : L ≤ 2560) (n : Nat) (hn5 : 5 * n + 5 ≤ L) (hN : LNx p l e s m below meth c D cI cT cP b h r ft a h2 r2 ft2 g Q (n + 1) (5 * n) 707) : LNx p l e s m below meth c D cI cT cP b h r ft a h2 r2 ft2 g Q n (5 * n) 654 := by
  intro LL jj uu ii vv hI H locs hP hD hS ls hl
  have hA : ∀ q : Nat, s.heap.size ≤ q → (fun q : Nat => s.heap.size ≤ q) q := fun _ h => h
  have hbA : ¬ (fun q : Nat => s.heap.size ≤ q) b := Nat.not_le.mpr hbl
  have hc1 := c_7 (jj := jj) (fun k hk => tl_7 (hI.1 k hk).1)
  have hc2 := c_7 (jj := ii) (fun k hk => pl_7 (hI.1 k hk).2.1)
  have hrc : 1000 ≤ room_1.cells := by decide
  have hrs : 400000 ≤ room_1.slots := by decide
  have hn1 : n + 1 ≤ 512 := by omega
  rcases bad_or (xs (5 * n + 1)) with hq | ⟨km, hkm, e1⟩
  · refine lv_aload_n hx hb d_lw_654 rfl (lv_at hl 1 rfl) ?_
    refine lv_aload_n hx hb d_lw_655 rfl (lv_at hl 0 rfl) ?_
    refine lv_iload_n hx hb d_lw_656 rfl (lv_at hl 3 rfl) ?_
    refine lv_iconst (v := 1) hx hb d_lw_657 (by decide) ?_
    refine lv_iadd hx hb d_lw_658 ?_
    refine tp_i (y := nI (5 * n + 1)) (nI_add (5 * n) 1) ?_
    refine wa_sld (k := 5 * n + 1) hx hb hX hbl hbA hS (by omega) (by omega) d_lw_659 ?_
    refine lv_aload_n hx hb d_lw_660 rfl (lv_at hl 0 rfl) ?_
    refine lv_iload_n hx hb d_lw_661 rfl (lv_at hl 3 rfl) ?_
    refine lv_iconst (v := 2) hx hb d_lw_662 (by decide) ?_
    refine lv_iadd hx hb d_lw_663 ?_
    refine tp_i (y := nI (5 * n + 2)) (nI_add (5 * n) 2) ?_
    refine wa_sld (k := 5 * n + 2) hx hb hX hbl hbA hS (by omega) (by omega) d_lw_664 ?_
    refine lv_aload_n hx hb d_lw_665 rfl (lv_at hl 0 rfl) ?_
    refine lv_iload_n hx hb d_lw_666 rfl (lv_at hl 3 rfl) ?_
    refine lv_iconst (v := 3) hx hb d_lw_667 (by decide) ?_
    refine lv_iadd hx hb d_lw_668 ?_
    refine tp_i (y := nI (5 * n + 3)) (nI_add (5 * n) 3) ?_
    refine wa_sld (k := 5 * n + 3) hx hb hX hbl hbA hS (by omega) (by omega) d_lw_669 ?_
    refine lv_aload_n hx hb d_lw_670 rfl (lv_at hl 0 rfl) ?_
    refine lv_iload_n hx hb d_lw_671 rfl (lv_at hl 3 rfl) ?_
    refine lv_iconst (v := 4) hx hb d_lw_672 (by decide) ?_
    refine lv_iadd hx hb d_lw_673 ?_
    refine tp_i (y := nI (5 * n + 4)) (nI_add (5 * n) 4) ?_
    refine wa_sld (k := 5 * n + 4) hx hb hX hbl hbA hS (by omega) (by omega) d_lw_674 ?_
    refine hh_V0 (hn := 4) (As := [.int (xs (5 * n + 1)), .int (xs (5 * n + 2)), .int (xs (5 * n + 3)), .int (xs (5 * n + 4))]) (rest := [])  hx hb hml hown hts  (c_hh_fill_x l D cI cT cP h r (xs (5 * n + 1)) hq (xs (5 * n + 2)) (xs (5 * n + 3)) (xs (5 * n + 4))) km_lw_81 ki_hh_fill ks_hh_fill kn_hh kc_hh_fill (by decide +kernel) rfl ⟨Nat.le_of_ble_eq_true rfl, Nat.le_of_ble_eq_true rfl⟩ hK hP hD hS hA hl.1 rfl (Nat.le_of_ble_eq_true rfl) d_lw_675 ⟨by omega, by omega⟩ (fun v u H locs hpost hP hD hS => ?_)
    subst hpost
    refine W.eq (g2 := F0 m 678 ls [.int (-1)]) rfl ?_
    refine lv_aload_n hx hb d_lw_678 rfl (lv_at hl 2 rfl) ?_
    refine lv_aload_n hx hb d_lw_679 rfl (lv_at hl 0 rfl) ?_
    refine lv_iload_n hx hb d_lw_680 rfl (lv_at hl 3 rfl) ?_
    refine lv_iconst (v := 1) hx hb d_lw_681 (by decide) ?_
    refine lv_iadd hx hb d_lw_682 ?_
    refine tp_i (y := nI (5 * n + 1)) (nI_add (5 * n) 1) ?_
    refine wa_sld (k := 5 * n + 1) hx hb hX hbl hbA hS (by omega) (by omega) d_lw_683 ?_
    refine lv_aload_n hx hb d_lw_684 rfl (lv_at hl 0 rfl) ?_
    refine lv_iload_n hx hb d_lw_685 rfl (lv_at hl 3 rfl) ?_
    refine lv_iconst (v := 2) hx hb d_lw_686 (by decide) ?_
    refine lv_iadd hx hb d_lw_687 ?_
    refine tp_i (y := nI (5 * n + 2)) (nI_add (5 * n) 2) ?_
    refine wa_sld (k := 5 * n + 2) hx hb hX hbl hbA hS (by omega) (by omega) d_lw_688 ?_
    refine lv_aload_n hx hb d_lw_689 rfl (lv_at hl 0 rfl) ?_
    refine lv_iload_n hx hb d_lw_690 rfl (lv_at hl 3 rfl) ?_
    refine lv_iconst (v := 3) hx hb d_lw_691 (by decide) ?_
    refine lv_iadd hx hb d_lw_692 ?_
    refine tp_i (y := nI (5 * n + 3)) (nI_add (5 * n) 3) ?_
    refine wa_sld (k := 5 * n + 3) hx hb hX hbl hbA hS (by omega) (by omega) d_lw_693 ?_
    refine lv_aload_n hx hb d_lw_694 rfl (lv_at hl 0 rfl) ?_
    refine lv_iload_n hx hb d_lw_695 rfl (lv_at hl 3 rfl) ?_
    refine lv_iconst (v := 4) hx hb d_lw_696 (by decide) ?_
    refine lv_iadd hx hb d_lw_697 ?_
    refine tp_i (y := nI (5 * n + 4)) (nI_add (5 * n) 4) ?_
    refine wa_sld (k := 5 * n + 4) hx hb hX hbl hbA hS (by omega) (by omega) d_lw_698 ?_
    refine md_V0 (hn := 4) (As := [.int (xs (5 * n + 1)), .int (xs (5 * n + 2)), .int (xs (5 * n + 3)), .int (xs (5 * n + 4))]) (rest := [.int (-1)])  hx hb hml hown hts  (c_md_fill_x l D cI cT cP h2 r2 (xs (5 * n + 1)) hq (xs (5 * n + 2)) (xs (5 * n + 3)) (xs (5 * n + 4))) km_lw_85 ki_md_fill ks_md_fill kn_md kc_md_fill (by decide +kernel) rfl ⟨Nat.le_of_ble_eq_true rfl, Nat.le_of_ble_eq_true rfl⟩ hK hP hD hS hA hl.1 rfl (Nat.le_of_ble_eq_true rfl) d_lw_699 ⟨by omega, by omega⟩ (fun v u H locs hpost hP hD hS => ?_)
    subst hpost
    refine W.eq (g2 := F0 m 702 ls [.int (-1), .int (-1)]) rfl ?_
    refine lv_icmp_eq (tgt := 707) hx hb d_lw_702 (by decide) (fun _ => ?_) (fun z9 => absurd rfl z9)
    refine W.widen (k := 43 + cA_ jj + cR ii) (n := 596 + sA_ jj + sR ii) (by omega) (by omega) ?_
    exact hN _ _ _ _ _ (li_mono hI hn1) _ _ hP hD hS ls hl
  · have hj9 := fp_7 (mv := (decide (km = 2))) (f := (xs (5 * n + 2))) (d := (xs (5 * n + 3))) (n := (xs (5 * n + 4))) (j := jj km) (L := LL km) (c := n + 1) (tl_7 (hI.1 km hkm).1) (by have := (hI.1 km hkm).2.2; omega)
    have hjA : jj km ≤ (fp (decide (km = 2)) (xs (5 * n + 2)) (xs (5 * n + 3)) (xs (5 * n + 4)) (jj km, LL km)).1 := by
      unfold fp
      show jj km ≤ (if fo (xs (5 * n + 4)) (LL km) then fj (decide (km = 2)) (xs (5 * n + 2)) (xs (5 * n + 3)) (jj km, LL km) 0 (fc (xs (5 * n + 4))) else (jj km, LL km)).1
      split
      · exact fj_le (jj km, LL km) 0
      · exact Nat.le_refl _
    have hiA : ii km ≤ (fpr (decide (km = 2)) (xs (5 * n + 2)) (xs (5 * n + 3)) (xs (5 * n + 4)) (ii km, LL km)).1 := by
      unfold fpr
      show ii km ≤ (if fo (xs (5 * n + 4)) (LL km) then fjr (decide (km = 2)) (xs (5 * n + 2)) (xs (5 * n + 3)) (ii km, LL km) 0 (fc (xs (5 * n + 4))) else (ii km, LL km)).1
      split
      · exact fjr_le (ii km, LL km) 0
      · exact Nat.le_refl _
    have hm1 := mT_7 (a := jj km) hj9.1
    have hm2 := mT_7 (a := ii km) (fpr_7 (mv := (decide (km = 2))) (f := (xs (5 * n + 2))) (d := (xs (5 * n + 3))) (n := (xs (5 * n + 4))) (j := ii km) (L := LL km) (pl_7 (hI.1 km hkm).2.1))
    have hu1 := cA_up hkm hjA
    have hu2 := sA_up hkm hjA
    have hu3 := cR_up hkm hiA
    have hu4 := sR_up hkm hiA
    refine lv_aload_n hx hb d_lw_654 rfl (lv_at hl 1 rfl) ?_
    refine lv_aload_n hx hb d_lw_655 rfl (lv_at hl 0 rfl) ?_
    refine lv_iload_n hx hb d_lw_656 rfl (lv_at hl 3 rfl) ?_
    refine lv_iconst (v := 1) hx hb d_lw_657 (by decide) ?_
    refine lv_iadd hx hb d_lw_658 ?_
    refine tp_i (y := nI (5 * n + 1)) (nI_add (5 * n) 1) ?_
    refine wa_sld (k := 5 * n + 1) hx hb hX hbl hbA hS (by omega) (by omega) d_lw_659 ?_
    refine tp_i (y := nI km) e1 ?_
    refine lv_aload_n hx hb d_lw_660 rfl (lv_at hl 0 rfl) ?_
    refine lv_iload_n hx hb d_lw_661 rfl (lv_at hl 3 rfl) ?_
    refine lv_iconst (v := 2) hx hb d_lw_662 (by decide) ?_
    refine lv_iadd hx hb d_lw_663 ?_
    refine tp_i (y := nI (5 * n + 2)) (nI_add (5 * n) 2) ?_
    refine wa_sld (k := 5 * n + 2) hx hb hX hbl hbA hS (by omega) (by omega) d_lw_664 ?_
    refine lv_aload_n hx hb d_lw_665 rfl (lv_at hl 0 rfl) ?_
    refine lv_iload_n hx hb d_lw_666 rfl (lv_at hl 3 rfl) ?_
    refine lv_iconst (v := 3) hx hb d_lw_667 (by decide) ?_
    refine lv_iadd hx hb d_lw_668 ?_
    refine tp_i (y := nI (5 * n + 3)) (nI_add (5 * n) 3) ?_
    refine wa_sld (k := 5 * n + 3) hx hb hX hbl hbA hS (by omega) (by omega) d_lw_669 ?_
    refine lv_aload_n hx hb d_lw_670 rfl (lv_at hl 0 rfl) ?_
    refine lv_iload_n hx hb d_lw_671 rfl (lv_at hl 3 rfl) ?_
    refine lv_iconst (v := 4) hx hb d_lw_672 (by decide) ?_
    refine lv_iadd hx hb d_lw_673 ?_
    refine tp_i (y := nI (5 * n + 4)) (nI_add (5 * n) 4) ?_
    refine wa_sld (k := 5 * n + 4) hx hb hX hbl hbA hS (by omega) (by omega) d_lw_674 ?_
    refine hh_V (hn := 4) (As := [.int (nI km), .int (xs (5 * n + 2)), .int (xs (5 * n + 3)), .int (xs (5 * n + 4))]) (rest := []) (k := km) (jn := (fp (decide (km = 2)) (xs (5 * n + 2)) (xs (5 * n + 3)) (xs (5 * n + 4)) (jj km, LL km)).1) (gu := fun u => u) hx hb hml hown hts hkm (c_hh_fill l D cI cT cP h r ft km hkm (a km) (hft km hkm) (decide (km = 2)) (jj km) (LL km) (uu km) (hI.1 km hkm).1 (xs (5 * n + 2)) (xs (5 * n + 3)) (xs (5 * n + 4))) km_lw_81 ki_hh_fill ks_hh_fill kn_hh kc_hh_fill (by decide +kernel) rfl ⟨Nat.le_of_ble_eq_true rfl, Nat.le_of_ble_eq_true rfl⟩ hK hP hD hS hA hl.1 rfl (Nat.le_of_ble_eq_true rfl) d_lw_675 ⟨by omega, by omega⟩ (fun v u9 H locs hpost hP hD hS => ?_)
    obtain ⟨e9, hT9⟩ := hpost
    subst e9
    refine W.eq (g2 := F0 m 678 ls [.int (fa (decide (km = 2)) (xs (5 * n + 2)) (xs (5 * n + 3)) (xs (5 * n + 4)) (jj km, LL km))]) rfl ?_
    refine lv_aload_n hx hb d_lw_678 rfl (lv_at hl 2 rfl) ?_
    refine lv_aload_n hx hb d_lw_679 rfl (lv_at hl 0 rfl) ?_
    refine lv_iload_n hx hb d_lw_680 rfl (lv_at hl 3 rfl) ?_
    refine lv_iconst (v := 1) hx hb d_lw_681 (by decide) ?_
    refine lv_iadd hx hb d_lw_682 ?_
    refine tp_i (y := nI (5 * n + 1)) (nI_add (5 * n) 1) ?_
    refine wa_sld (k := 5 * n + 1) hx hb hX hbl hbA hS (by omega) (by omega) d_lw_683 ?_
    refine tp_i (y := nI km) e1 ?_
    refine lv_aload_n hx hb d_lw_684 rfl (lv_at hl 0 rfl) ?_
    refine lv_iload_n hx hb d_lw_685 rfl (lv_at hl 3 rfl) ?_
    refine lv_iconst (v := 2) hx hb d_lw_686 (by decide) ?_
    refine lv_iadd hx hb d_lw_687 ?_
    refine tp_i (y := nI (5 * n + 2)) (nI_add (5 * n) 2) ?_
    refine wa_sld (k := 5 * n + 2) hx hb hX hbl hbA hS (by omega) (by omega) d_lw_688 ?_
    refine lv_aload_n hx hb d_lw_689 rfl (lv_at hl 0 rfl) ?_
    refine lv_iload_n hx hb d_lw_690 rfl (lv_at hl 3 rfl) ?_
    refine lv_iconst (v := 3) hx hb d_lw_691 (by decide) ?_
    refine lv_iadd hx hb d_lw_692 ?_
    refine tp_i (y := nI (5 * n + 3)) (nI_add (5 * n) 3) ?_
    refine wa_sld (k := 5 * n + 3) hx hb hX hbl hbA hS (by omega) (by omega) d_lw_693 ?_
    refine lv_aload_n hx hb d_lw_694 rfl (lv_at hl 0 rfl) ?_
    refine lv_iload_n hx hb d_lw_695 rfl (lv_at hl 3 rfl) ?_
    refine lv_iconst (v := 4) hx hb d_lw_696 (by decide) ?_
    refine lv_iadd hx hb d_lw_697 ?_
    refine tp_i (y := nI (5 * n + 4)) (nI_add (5 * n) 4) ?_
    refine wa_sld (k := 5 * n + 4) hx hb hX hbl hbA hS (by omega) (by omega) d_lw_698 ?_
    refine md_V (hn := 4) (As := [.int (nI km), .int (xs (5 * n + 2)), .int (xs (5 * n + 3)), .int (xs (5 * n + 4))]) (rest := [.int (fa (decide (km = 2)) (xs (5 * n + 2)) (xs (5 * n + 3)) (xs (5 * n + 4)) (jj km, LL km))]) (k := km) (jn := (fpr (decide (km = 2)) (xs (5 * n + 2)) (xs (5 * n + 3)) (xs (5 * n + 4)) (ii km, LL km)).1) (gu := fun u => u) hx hb hml hown hts hkm (c_md_fill l D cI cT cP h2 r2 ft2 km hkm (g km) (hft2 km hkm) (ii km) (LL km) (vv km) (hI.1 km hkm).2.1 (xs (5 * n + 2)) (xs (5 * n + 3)) (xs (5 * n + 4))) km_lw_85 ki_md_fill ks_md_fill kn_md kc_md_fill (by decide +kernel) rfl ⟨Nat.le_of_ble_eq_true rfl, Nat.le_of_ble_eq_true rfl⟩ hK hP hD hS hA hl.1 rfl (Nat.le_of_ble_eq_true rfl) d_lw_699 ⟨by omega, by omega⟩ (fun v v9 H locs hpost hP hD hS => ?_)
    obtain ⟨e9, hP9⟩ := hpost
    subst e9
    refine W.eq (g2 := F0 m 702 ls [.int (far (decide (km = 2)) (xs (5 * n + 2)) (xs (5 * n + 3)) (xs (5 * n + 4)) (ii km, LL km)), .int (fa (decide (km = 2)) (xs (5 * n + 2)) (xs (5 * n + 3)) (xs (5 * n + 4)) (jj km, LL km))]) rfl ?_
    refine lv_icmp_eq (tgt := 707) hx hb d_lw_702 (by decide) (fun _ => ?_) (fun z9 => absurd (fa_eq _ _ _) z9)
    refine W.widen (k := 43 + cA_ (va_up jj km ((fp (decide (km = 2)) (xs (5 * n + 2)) (xs (5 * n + 3)) (xs (5 * n + 4)) (jj km, LL km)).1)) + cR (va_up ii km ((fpr (decide (km = 2)) (xs (5 * n + 2)) (xs (5 * n + 3)) (xs (5 * n + 4)) (ii km, LL km)).1))) (n := 596 + sA_ (va_up jj km ((fp (decide (km = 2)) (xs (5 * n + 2)) (xs (5 * n + 3)) (xs (5 * n + 4)) (jj km, LL km)).1)) + sR (va_up ii km ((fpr (decide (km = 2)) (xs (5 * n + 2)) (xs (5 * n + 3)) (xs (5 * n + 4)) (ii km, LL km)).1))) (by omega) (by omega) ?_
    exact hN _ _ _ _ _ (li_up hI hn1 km (L' := (fp (decide (km = 2)) (xs (5 * n + 2)) (xs (5 * n + 3)) (xs (5 * n + 4)) (jj km, LL km)).2) hT9 (by rw [fp_eq (jj km) (ii km) (LL km)]; exact hP9) (by have := hj9.2; omega)) _ _ hP hD hS ls hl
