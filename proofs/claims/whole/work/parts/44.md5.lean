-- HashHallModel (5): pour: printed by wip/whole/gen/md5.py
def pjr (mv : Bool) : Nat × List (Int32 × Int32) → List (Int32 × Int32) → Nat × List (Int32 × Int32)
  | jl, [] => jl
  | jl, e :: M => pjr mv (njrs jl.1 e.1 jl.2, st mv e.1 e.2 jl.2) M
theorem pjr_le {mv : Bool} {M : List (Int32 × Int32)} : ∀ jl : Nat × List (Int32 × Int32), jl.1 ≤ (pjr mv jl M).1 := by
  induction M with
  | nil => exact fun jl => Nat.le_refl _
  | cons e M ih => exact fun jl => Nat.le_trans (njrs_le jl.1 e.1 jl.2) (ih (njrs jl.1 e.1 jl.2, st mv e.1 e.2 jl.2))
def ppr (k1 k2 : Nat) (mv : Bool) (jl : Nat × List (Int32 × Int32)) (L1 : List (Int32 × Int32)) : Nat × List (Int32 × Int32) := if po_ k1 k2 L1 jl.2 then pjr mv jl L1 else jl
def par_ (k1 k2 : Nat) (mv : Bool) (jl : Nat × List (Int32 × Int32)) (L1 : List (Int32 × Int32)) : Int32 := if po_ k1 k2 L1 jl.2 then nI (ppr k1 k2 mv jl L1).2.length else -1
set_option maxRecDepth 100000 in
set_option maxHeartbeats 4000000 in
/-- pour -/
theorem c_md_pour (l : Launch) (D : va_G) (cI cT cP : ClassId) (h r : Nat) (ft : Nat → Option Nat) (k1 : Nat) (hk1 : k1 < 3) (a : Nat) (hf1 : ft k1 = some a) (k2 : Nat) (hk2 : k2 < 3) (a2 : Nat) (hf2 : ft k2 = some a2) (j : Nat) (L : List (Int32 × Int32)) (u0 : PB) (hL : PL j L u0) (j2 : Nat) (L2 : List (Int32 × Int32)) (u2 : PB) (hL2 : PL j2 L2 u2) (hne : ¬ k1 = k2) : Cg l y_md_pour b_md_pour 4 (some .int) 5 (mcR j2 (ppr k1 k2 (decide (k2 = 2)) (j2, L2) L).1) (msR j2 (ppr k1 k2 (decide (k2 = 2)) (j2, L2) L).1) D (ty3 cI cT cP) [.ref h, .int (nI k1), .int (nI k2)] ([(h, .inr (3, [.ref r])), (r, .inl (cP, 3, .inr (.inr (.inr (.inr ft)))))] ++ (pw cI a j u0) ++ (pw cI a2 j2 u2)) (fun (v : Option Value) (u : PB) => v = some (.int (par_ k1 k2 (decide (k2 = 2)) (j2, L2) L)) ∧ PL (ppr k1 k2 (decide (k2 = 2)) (j2, L2) L).1 (ppr k1 k2 (decide (k2 = 2)) (j2, L2) L).2 u) (fun u => [(h, .inr (3, [.ref r])), (r, .inl (cP, 3, .inr (.inr (.inr (.inr ft)))))] ++ (pw cI a j u0) ++ (pw cI a2 ((ppr k1 k2 (decide (k2 = 2)) (j2, L2) L).1) u)) := by
  obtain ⟨qs, qk, qv, qb, qn, Z, K, V, P, N, fr, mm, fi, la, R⟩ := u0
  obtain ⟨Fr, Sp, hPA, hPN, hPS, hsF, eL⟩ := hL
  have hPA : PA (2 ^ (4 + j)) j mm R Fr := hPA
  have hPN : PN P N fi la R := hPN
  have hPS : PS K Z R Sp := hPS
  have hsF : sg N fr Fr (-1) := hsF
  have eL : L = kv K V R := eL
  have hLl : L.length = R.length := by rw [eL]; exact List.length_map ..
  have hpn := pa_n hPA
  have hn : 2 ^ (4 + j) < 2 ^ 31 := by omega
  have hSl : Sp.length = R.length := hPS.1.length_eq
  have hin2 : ∀ x, x ∈ Sp → x < 2 ^ (4 + j) := fun x hx1 => (pa_in hPA (hPS.1.mem_iff.mp hx1)).2
  have hnd := ps_nd hPS
  obtain ⟨qs2, qk2, qv2, qb2, qn2, Z2, K2, V2, P2, N2, fr2, mm2, fi2, la2, R2⟩ := u2
  obtain ⟨Fr2, Sp2, hPA2, hPN2, hPS2, hsF2, eL2⟩ := hL2
  have hPA2 : PA (2 ^ (4 + j2)) j2 mm2 R2 Fr2 := hPA2
  have hPN2 : PN P2 N2 fi2 la2 R2 := hPN2
  have hPS2 : PS K2 Z2 R2 Sp2 := hPS2
  have hsF2 : sg N2 fr2 Fr2 (-1) := hsF2
  have eL2 : L2 = kv K2 V2 R2 := eL2
  have hLl2 : L2.length = R2.length := by rw [eL2]; exact List.length_map ..
  have hpn2 := pa_n hPA2
  have hn2 : 2 ^ (4 + j2) < 2 ^ 31 := by omega
  have hSl2 : Sp2.length = R2.length := hPS2.1.length_eq
  have hin22 : ∀ x, x ∈ Sp2 → x < 2 ^ (4 + j2) := fun x hx1 => (pa_in hPA2 (hPS2.1.mem_iff.mp hx1)).2
  have hnd2 := ps_nd hPS2
  refine cg_enter rfl (Nat.le_of_ble_eq_true rfl) ?_
  intro p e s m below meth c args hx hb hr hlk hml hown hin hts A hA hK hP hD hS ls hl Q hQ
  have hl : lv_has ls 4 [(0, .ref h), (1, .int (nI k1)), (2, .int (nI k2))] := hl
  have hP : va_P D cls ([(h, .inr (3, [.ref r])), (r, .inl (cP, 3, .inr (.inr (.inr (.inr ft)))))] ++ (px cI a qs qk qv qb qn (2 ^ (4 + j)) Z K V P N (nI R.length) fr (nI mm) fi la) ++ (px cI a2 qs2 qk2 qv2 qb2 qn2 (2 ^ (4 + j2)) Z2 K2 V2 P2 N2 (nI R2.length) fr2 (nI mm2) fi2 la2)) s.heap := hP
  have hD : va_D A ([(h, .inr (3, [.ref r])), (r, .inl (cP, 3, .inr (.inr (.inr (.inr ft)))))] ++ (px cI a qs qk qv qb qn (2 ^ (4 + j)) Z K V P N (nI R.length) fr (nI mm) fi la) ++ (px cI a2 qs2 qk2 qv2 qb2 qn2 (2 ^ (4 + j2)) Z2 K2 V2 P2 N2 (nI R2.length) fr2 (nI mm2) fi2 la2)) := hD
  have fin : ∀ (_ : True), po_ k1 k2 L L2 = true → ∀ (H : Heap) (locs : List Loc), va_P D cls ([(h, .inr (3, [.ref r])), (r, .inl (cP, 3, .inr (.inr (.inr (.inr ft)))))] ++ (px cI a qs qk qv qb qn (2 ^ (4 + j)) Z K V P N (nI R.length) fr (nI mm) fi la) ++ (px cI a2 qs2 qk2 qv2 qb2 qn2 (2 ^ (4 + j2)) Z2 K2 V2 P2 N2 (nI R2.length) fr2 (nI mm2) fi2 la2)) H → va_D A ([(h, .inr (3, [.ref r])), (r, .inl (cP, 3, .inr (.inr (.inr (.inr ft)))))] ++ (px cI a qs qk qv qb qn (2 ^ (4 + j)) Z K V P N (nI R.length) fr (nI mm) fi la) ++ (px cI a2 qs2 qk2 qv2 qb2 qn2 (2 ^ (4 + j2)) Z2 K2 V2 P2 N2 (nI R2.length) fr2 (nI mm2) fi2 la2)) → va_S A s.heap H locs → ∀ ls : Array Slot, lv_has ls 4 [(0, .ref h), (1, .int (nI k1)), (2, .int (nI k2))] → W p l e (rmL 5 (mcR j2 (ppr k1 k2 (decide (k2 = 2)) (j2, L2) L).1) (msR j2 (ppr k1 k2 (decide (k2 = 2)) (j2, L2) L).1)) s m args below meth c H locs 0 0 Q (F0 m 113 ls []) := by
    intro _ hpo H locs hP hD hS ls hl
    have hlen : L.length + L2.length ≤ 1400 := by
      unfold po_ at hpo
      rw [Bool.and_eq_true] at hpo
      exact of_decide_eq_true hpo.1
    have ep : ppr k1 k2 (decide (k2 = 2)) (j2, L2) L = pjr (decide (k2 = 2)) (j2, L2) L := by unfold ppr; rw [show po_ k1 k2 L (j2, L2).2 = true from hpo]; rfl
    have hL2 : PL j2 L2 (qs2, qk2, qv2, qb2, qn2, Z2, K2, V2, P2, N2, fr2, mm2, fi2, la2, R2) := ⟨Fr2, Sp2, hPA2, hPN2, hPS2, hsF2, eL2⟩
    have hfi : fi = hdI R := sg_hdI hPN.1
    refine lv_aload_n hx hb d_md_pour_113 rfl (lv_at hl 0 rfl) ?_
    refine va_get (D := D) (ci := 3) (v := .ref r) (C := R_md) (T := F_md) (N := 1) hx hb hts i_md hown hK hP 0 rfl rfl 0 (by decide) (hts _ kf_md_12) (fun _ h9 => h9) rfl d_md_pour_114 ?_
    refine lv_iload_n hx hb d_md_pour_117 rfl (lv_at hl 1 rfl) ?_
    refine wa_ald (k := k1) (b := a) hx hb hK hP 1 2 rfl rfl hk1 (by decide) hf1 d_md_pour_118 ?_
    refine va_get (D := D) (ci := 2) (v := .int fi) (C := R_pr) (T := F_pr) (N := 10) hx hb hts i_pr hown hK hP 2 rfl rfl 8 (by decide) (hts _ kf_md_63) (fun _ h9 => h9) rfl d_md_pour_119 ?_
    refine lv_istore_n (lv' := [(3, .int fi), (0, .ref h), (1, .int (nI k1)), (2, .int (nI k2))]) hx hb d_md_pour_122 rfl hl (by decide) rfl (fun ls hl => ?_)
    rw [hfi] at hl
    have loop : ∀ (l2 l1 : List Nat) (jc : Nat) (Lc : List (Int32 × Int32)) (uc : PB), R = l1 ++ l2 → PL jc Lc uc → j2 ≤ jc → pjr (decide (k2 = 2)) (jc, Lc) (kv K V l2) = ppr k1 k2 (decide (k2 = 2)) (j2, L2) L → Lc.length + l2.length ≤ 1400 → ∀ (H : Heap) (locs : List Loc), va_P D cls ([(h, .inr (3, [.ref r])), (r, .inl (cP, 3, .inr (.inr (.inr (.inr ft)))))] ++ (px cI a qs qk qv qb qn (2 ^ (4 + j)) Z K V P N (nI R.length) fr (nI mm) fi la) ++ (pw cI a2 jc uc)) H → va_D A ([(h, .inr (3, [.ref r])), (r, .inl (cP, 3, .inr (.inr (.inr (.inr ft)))))] ++ (px cI a qs qk qv qb qn (2 ^ (4 + j)) Z K V P N (nI R.length) fr (nI mm) fi la) ++ (pw cI a2 jc uc)) → va_S A s.heap H locs → ∀ ls : Array Slot, lv_has ls 4 [(0, .ref h), (1, .int (nI k1)), (2, .int (nI k2)), (3, .int (hdI l2))] → W p l e (rmL 5 (mcR j2 (ppr k1 k2 (decide (k2 = 2)) (j2, L2) L).1) (msR j2 (ppr k1 k2 (decide (k2 = 2)) (j2, L2) L).1)) s m args below meth c H locs (mcR j2 jc) (msR j2 jc) Q (F0 m 123 ls []) := by
      clear hP hD hS
      intro l2
      induction l2 with
      | nil =>
        intro l1 jc Lc uc eR hT hjc hst hlc H locs hP hD hS ls hl
        have e1 : jc = (ppr k1 k2 (decide (k2 = 2)) (j2, L2) L).1 := by rw [← hst]; rfl
        have e2 : Lc = (ppr k1 k2 (decide (k2 = 2)) (j2, L2) L).2 := by rw [← hst]; rfl
        subst e1
        subst e2
        have hl : lv_has ls 4 [(0, .ref h), (1, .int (nI k1)), (2, .int (nI k2)), (3, .int (-1))] := hl
        refine lv_iload_n hx hb d_md_pour_123 rfl (lv_at hl 3 rfl) ?_
        refine lv_if_lt (tgt := 170) hx hb d_md_pour_124 (by decide) (fun _ => ?_) (fun z9 => absurd m1_neg z9)
        obtain ⟨qs3, qk3, qv3, qb3, qn3, Z3, K3, V3, P3, N3, fr3, mm3, fi3, la3, R3⟩ := uc
        obtain ⟨Fr3, Sp3, hPA3, hPN3, hPS3, hsF3, eL3⟩ := hT
        have hPA3 : PA (2 ^ (4 + ((ppr k1 k2 (decide (k2 = 2)) (j2, L2) L).1))) ((ppr k1 k2 (decide (k2 = 2)) (j2, L2) L).1) mm3 R3 Fr3 := hPA3
        have hPN3 : PN P3 N3 fi3 la3 R3 := hPN3
        have hPS3 : PS K3 Z3 R3 Sp3 := hPS3
        have hsF3 : sg N3 fr3 Fr3 (-1) := hsF3
        have eL3 : ((ppr k1 k2 (decide (k2 = 2)) (j2, L2) L).2) = kv K3 V3 R3 := eL3
        have hLl3 : ((ppr k1 k2 (decide (k2 = 2)) (j2, L2) L).2).length = R3.length := by rw [eL3]; exact List.length_map ..
        have hpn3 := pa_n hPA3
        have hn3 : 2 ^ (4 + ((ppr k1 k2 (decide (k2 = 2)) (j2, L2) L).1)) < 2 ^ 31 := by omega
        have hSl3 : Sp3.length = R3.length := hPS3.1.length_eq
        have hin23 : ∀ x, x ∈ Sp3 → x < 2 ^ (4 + ((ppr k1 k2 (decide (k2 = 2)) (j2, L2) L).1)) := fun x hx1 => (pa_in hPA3 (hPS3.1.mem_iff.mp hx1)).2
        have hnd3 := ps_nd hPS3
        have hP : va_P D cls ([(h, .inr (3, [.ref r])), (r, .inl (cP, 3, .inr (.inr (.inr (.inr ft)))))] ++ (px cI a qs qk qv qb qn (2 ^ (4 + j)) Z K V P N (nI R.length) fr (nI mm) fi la) ++ (px cI a2 qs3 qk3 qv3 qb3 qn3 (2 ^ (4 + (ppr k1 k2 (decide (k2 = 2)) (j2, L2) L).1)) Z3 K3 V3 P3 N3 (nI R3.length) fr3 (nI mm3) fi3 la3)) H := hP
        have hD : va_D A ([(h, .inr (3, [.ref r])), (r, .inl (cP, 3, .inr (.inr (.inr (.inr ft)))))] ++ (px cI a qs qk qv qb qn (2 ^ (4 + j)) Z K V P N (nI R.length) fr (nI mm) fi la) ++ (px cI a2 qs3 qk3 qv3 qb3 qn3 (2 ^ (4 + (ppr k1 k2 (decide (k2 = 2)) (j2, L2) L).1)) Z3 K3 V3 P3 N3 (nI R3.length) fr3 (nI mm3) fi3 la3)) := hD
        refine lv_aload_n hx hb d_md_pour_170 rfl (lv_at hl 0 rfl) ?_
        refine va_get (D := D) (ci := 3) (v := .ref r) (C := R_md) (T := F_md) (N := 1) hx hb hts i_md hown hK hP 0 rfl rfl 0 (by decide) (hts _ kf_md_12) (fun _ h9 => h9) rfl d_md_pour_171 ?_
        refine lv_iload_n hx hb d_md_pour_174 rfl (lv_at hl 2 rfl) ?_
        refine wa_ald (k := k2) (b := a2) hx hb hK hP 1 2 rfl rfl hk2 (by decide) hf2 d_md_pour_175 ?_
        refine va_get (D := D) (ci := 2) (v := .int (nI R3.length)) (C := R_pr) (T := F_pr) (N := 10) hx hb hts i_pr hown hK hP 8 rfl rfl 5 (by decide) (hts _ kf_md_50) (fun _ h9 => h9) rfl d_md_pour_176 ?_
        exact cg_iret (u := (qs3, qk3, qv3, qb3, qn3, Z3, K3, V3, P3, N3, fr3, mm3, fi3, la3, R3)) hQ hx hb hr hlk hK hP hD hS (⟨by unfold par_; rw [show po_ k1 k2 L (j2, L2).2 = true from hpo, ← hLl3]; rfl, ⟨Fr3, Sp3, hPA3, hPN3, hPS3, hsF3, eL3⟩⟩) d_md_pour_179
      | cons x l2 ih =>
        intro l1 jc Lc uc eR hT hjc hst hlc H locs hP hD hS ls hl
        have hxR : x ∈ R := by rw [eR]; exact List.mem_append_right _ (List.mem_cons_self ..)
        have hxn := pa_in hPA hxR
        have sN : N x = hdI l2 := sg_hdI (sg_app.mp (show sg N fi (l1 ++ x :: l2) (-1) by rw [← eR]; exact hPN.1)).2
        have hstep : pjr (decide (k2 = 2)) (njrs jc (K x) Lc, st (decide (k2 = 2)) (K x) (V x) Lc) (kv K V l2) = ppr k1 k2 (decide (k2 = 2)) (j2, L2) L := hst
        have hj1 := njrs_le jc (K x) Lc
        have hj2 : njrs jc (K x) Lc ≤ (ppr k1 k2 (decide (k2 = 2)) (j2, L2) L).1 := by rw [← hstep]; exact pjr_le (njrs jc (K x) Lc, st (decide (k2 = 2)) (K x) (V x) Lc)
        have hsl := st_len (mv := (decide (k2 = 2))) (k := K x) (v := V x) (L := Lc)
        have hlc2 : Lc.length + (l2.length + 1) ≤ 1400 := hlc
        have hl : lv_has ls 4 [(0, .ref h), (1, .int (nI k1)), (2, .int (nI k2)), (3, .int (nI x))] := hl
        refine lv_iload_n hx hb d_md_pour_123 rfl (lv_at hl 3 rfl) ?_
        refine lv_if_lt (tgt := 170) hx hb d_md_pour_124 (by decide) (fun z9 => absurd z9 (nI_pos (by omega))) (fun _ => ?_)
        refine lv_aload_n hx hb d_md_pour_127 rfl (lv_at hl 0 rfl) ?_
        refine lv_iload_n hx hb d_md_pour_128 rfl (lv_at hl 2 rfl) ?_
        refine lv_aload_n hx hb d_md_pour_129 rfl (lv_at hl 0 rfl) ?_
        refine va_get (D := D) (ci := 3) (v := .ref r) (C := R_md) (T := F_md) (N := 1) hx hb hts i_md hown hK hP 0 rfl rfl 0 (by decide) (hts _ kf_md_12) (fun _ h9 => h9) rfl d_md_pour_130 ?_
        refine lv_iload_n hx hb d_md_pour_133 rfl (lv_at hl 1 rfl) ?_
        refine wa_ald (k := k1) (b := a) hx hb hK hP 1 2 rfl rfl hk1 (by decide) hf1 d_md_pour_134 ?_
        refine va_get (D := D) (ci := 2) (v := .ref qk) (C := R_pr) (T := F_pr) (N := 10) hx hb hts i_pr hown hK hP 2 rfl rfl 1 (by decide) (hts _ kf_md_60) (fun _ h9 => h9) rfl d_md_pour_135 ?_
        refine lv_iload_n hx hb d_md_pour_138 rfl (lv_at hl 3 rfl) ?_
        refine wa_ld (k := x) hx hb hK hP 4 0 rfl rfl hxn.2 hn d_md_pour_139 ?_
        refine lv_aload_n hx hb d_md_pour_140 rfl (lv_at hl 0 rfl) ?_
        refine va_get (D := D) (ci := 3) (v := .ref r) (C := R_md) (T := F_md) (N := 1) hx hb hts i_md hown hK hP 0 rfl rfl 0 (by decide) (hts _ kf_md_12) (fun _ h9 => h9) rfl d_md_pour_141 ?_
        refine lv_iload_n hx hb d_md_pour_144 rfl (lv_at hl 1 rfl) ?_
        refine wa_ald (k := k1) (b := a) hx hb hK hP 1 2 rfl rfl hk1 (by decide) hf1 d_md_pour_145 ?_
        refine va_get (D := D) (ci := 2) (v := .ref qv) (C := R_pr) (T := F_pr) (N := 10) hx hb hts i_pr hown hK hP 2 rfl rfl 2 (by decide) (hts _ kf_md_36) (fun _ h9 => h9) rfl d_md_pour_146 ?_
        refine lv_iload_n hx hb d_md_pour_149 rfl (lv_at hl 3 rfl) ?_
        refine wa_ld (k := x) hx hb hK hP 5 0 rfl rfl hxn.2 hn d_md_pour_150 ?_
        refine cg_V (hn := 3) (As := [.int (nI k2), .int (K x), .int (V x)]) (rest := []) (wr := px cI a qs qk qv qb qn (2 ^ (4 + j)) Z K V P N (nI R.length) fr (nI mm) fi la) (q0 := 0) (ci := 3) hx hb hml hown hts (c_md_put l D cI cT cP h r ft k2 hk2 a2 hf2 jc Lc uc hT (K x) (V x) (by omega)) km_md_66 ki_md_put ks_md_put kn_md kc_md_put (by decide +kernel) rfl ⟨Nat.le_of_ble_eq_true rfl, Nat.le_of_ble_eq_true rfl⟩ hK hP hD hS hA [0, 1, 8, 9, 10, 11, 12, 13] [2, 3, 4, 5, 6, 7] rfl (by decide) rfl (by decide) (by decide) rfl rfl hl.1 rfl (Nat.le_of_ble_eq_true rfl) d_md_pour_151 ⟨by show _ ≤ mcR j2 (ppr k1 k2 (decide (k2 = 2)) (j2, L2) L).1; rw [mcR_add hjc hj1]; exact mcR_le hj2, by show _ ≤ msR j2 (ppr k1 k2 (decide (k2 = 2)) (j2, L2) L).1; rw [msR_add hjc hj1]; exact msR_le hj2⟩ (fun v u H locs hpost hP hD hS => ?_)
        obtain ⟨e9, hT3⟩ := hpost
        subst e9
        refine W.eq (g2 := F0 m 154 ls [.long (an (lk (K x) Lc))]) rfl ?_
        have hP : va_P D cls ((px cI a qs qk qv qb qn (2 ^ (4 + j)) Z K V P N (nI R.length) fr (nI mm) fi la) ++ [(h, .inr (3, [.ref r])), (r, .inl (cP, 3, .inr (.inr (.inr (.inr ft)))))] ++ (pw cI a2 (njrs jc (K x) Lc) u)) H := hP
        have hD : va_D A ((px cI a qs qk qv qb qn (2 ^ (4 + j)) Z K V P N (nI R.length) fr (nI mm) fi la) ++ [(h, .inr (3, [.ref r])), (r, .inl (cP, 3, .inr (.inr (.inr (.inr ft)))))] ++ (pw cI a2 (njrs jc (K x) Lc) u)) := hD
        have hP : va_P D cls ([(h, .inr (3, [.ref r])), (r, .inl (cP, 3, .inr (.inr (.inr (.inr ft)))))] ++ (px cI a qs qk qv qb qn (2 ^ (4 + j)) Z K V P N (nI R.length) fr (nI mm) fi la) ++ (pw cI a2 (njrs jc (K x) Lc) u)) H := hP.sub [6, 7, 0, 1, 2, 3, 4, 5, 8, 9, 10, 11, 12, 13] rfl
        have hD : va_D A ([(h, .inr (3, [.ref r])), (r, .inl (cP, 3, .inr (.inr (.inr (.inr ft)))))] ++ (px cI a qs qk qv qb qn (2 ^ (4 + j)) Z K V P N (nI R.length) fr (nI mm) fi la) ++ (pw cI a2 (njrs jc (K x) Lc) u)) := hD.sub [6, 7, 0, 1, 2, 3, 4, 5, 8, 9, 10, 11, 12, 13] (by decide) rfl
        refine W.widen (k := mcR j2 (njrs jc (K x) Lc)) (n := msR j2 (njrs jc (K x) Lc)) (Nat.le_of_eq (mcR_add hjc hj1)) (Nat.le_of_eq (msR_add hjc hj1)) ?_
        refine lv_pop2_2 hx hb d_md_pour_154 rfl ?_
        refine lv_aload_n hx hb d_md_pour_155 rfl (lv_at hl 0 rfl) ?_
        refine va_get (D := D) (ci := 3) (v := .ref r) (C := R_md) (T := F_md) (N := 1) hx hb hts i_md hown hK hP 0 rfl rfl 0 (by decide) (hts _ kf_md_12) (fun _ h9 => h9) rfl d_md_pour_156 ?_
        refine lv_iload_n hx hb d_md_pour_159 rfl (lv_at hl 1 rfl) ?_
        refine wa_ald (k := k1) (b := a) hx hb hK hP 1 2 rfl rfl hk1 (by decide) hf1 d_md_pour_160 ?_
        refine va_get (D := D) (ci := 2) (v := .ref qn) (C := R_pr) (T := F_pr) (N := 10) hx hb hts i_pr hown hK hP 2 rfl rfl 4 (by decide) (hts _ kf_md_70) (fun _ h9 => h9) rfl d_md_pour_161 ?_
        refine lv_iload_n hx hb d_md_pour_164 rfl (lv_at hl 3 rfl) ?_
        refine wa_ld (k := x) hx hb hK hP 7 0 rfl rfl hxn.2 hn d_md_pour_165 ?_
        refine tp_i (y := hdI l2) sN ?_
        refine lv_istore_n (lv' := [(3, .int (hdI l2)), (0, .ref h), (1, .int (nI k1)), (2, .int (nI k2))]) hx hb d_md_pour_166 rfl hl (by decide) rfl (fun ls hl => ?_)
        refine lv_goto (tgt := 123) hx hb d_md_pour_167 (by decide) ?_
        exact ih (l1 ++ [x]) _ _ u (by rw [eR]; simp) hT3 (Nat.le_trans hjc hj1) hstep (by omega) _ _ hP hD hS ls (lv_sub hl [1, 2, 3, 0] rfl)
    refine W.widen (k := mcR j2 j2) (n := msR j2 j2) (Nat.zero_le _) (Nat.zero_le _) ?_
    exact loop R [] j2 L2 (qs2, qk2, qv2, qb2, qn2, Z2, K2, V2, P2, N2, fr2, mm2, fi2, la2, R2) rfl hL2 (Nat.le_refl _) (by rw [ep, ← eL]) (by omega) _ _ hP hD hS ls (lv_sub hl [1, 2, 3, 0] rfl)
  refine lv_iload_n hx hb d_md_pour_0 rfl (lv_at hl 1 rfl) ?_
  refine cg_S (hn := 1) (As := [.int (nI k1)]) (rest := []) (wr := [(h, .inr (3, [.ref r])), (r, .inl (cP, 3, .inr (.inr (.inr (.inr ft)))))] ++ (px cI a qs qk qv qb qn (2 ^ (4 + j)) Z K V P N (nI R.length) fr (nI mm) fi la) ++ (px cI a2 qs2 qk2 qv2 qb2 qn2 (2 ^ (4 + j2)) Z2 K2 V2 P2 N2 (nI R2.length) fr2 (nI mm2) fi2 la2)) hx hb hml hown hts (c_md_isMap l D cI cT cP k1 hk1) km_md_20 kt_md_isMap kn_md kc_md_isMap (by decide +kernel) rfl ⟨Nat.le_of_ble_eq_true rfl, Nat.le_of_ble_eq_true rfl⟩ hK hP hD hS hA [] [0, 1, 2, 3, 4, 5, 6, 7, 8, 9, 10, 11, 12, 13] rfl (by decide) rfl (by decide) (by decide) hl.1 rfl (Nat.le_of_ble_eq_true rfl) d_md_pour_1 ⟨Nat.zero_le _, Nat.zero_le _⟩ (fun v u H locs hpost hP hD hS => ?_)
  subst hpost
  refine W.eq (g2 := F0 m 4 ls [.int 1]) rfl ?_
  have hP : va_P D cls ([(h, .inr (3, [.ref r])), (r, .inl (cP, 3, .inr (.inr (.inr (.inr ft)))))] ++ (px cI a qs qk qv qb qn (2 ^ (4 + j)) Z K V P N (nI R.length) fr (nI mm) fi la) ++ (px cI a2 qs2 qk2 qv2 qb2 qn2 (2 ^ (4 + j2)) Z2 K2 V2 P2 N2 (nI R2.length) fr2 (nI mm2) fi2 la2)) H := hP
  have hD : va_D A ([(h, .inr (3, [.ref r])), (r, .inl (cP, 3, .inr (.inr (.inr (.inr ft)))))] ++ (px cI a qs qk qv qb qn (2 ^ (4 + j)) Z K V P N (nI R.length) fr (nI mm) fi la) ++ (px cI a2 qs2 qk2 qv2 qb2 qn2 (2 ^ (4 + j2)) Z2 K2 V2 P2 N2 (nI R2.length) fr2 (nI mm2) fi2 la2)) := hD
  refine lv_if_eq (tgt := 44) hx hb d_md_pour_4 (by decide) (fun z9 => absurd z9 (by decide)) (fun _ => ?_)
  refine lv_iload_n hx hb d_md_pour_7 rfl (lv_at hl 2 rfl) ?_
  refine cg_S (hn := 1) (As := [.int (nI k2)]) (rest := []) (wr := [(h, .inr (3, [.ref r])), (r, .inl (cP, 3, .inr (.inr (.inr (.inr ft)))))] ++ (px cI a qs qk qv qb qn (2 ^ (4 + j)) Z K V P N (nI R.length) fr (nI mm) fi la) ++ (px cI a2 qs2 qk2 qv2 qb2 qn2 (2 ^ (4 + j2)) Z2 K2 V2 P2 N2 (nI R2.length) fr2 (nI mm2) fi2 la2)) hx hb hml hown hts (c_md_isMap l D cI cT cP k2 hk2) km_md_20 kt_md_isMap kn_md kc_md_isMap (by decide +kernel) rfl ⟨Nat.le_of_ble_eq_true rfl, Nat.le_of_ble_eq_true rfl⟩ hK hP hD hS hA [] [0, 1, 2, 3, 4, 5, 6, 7, 8, 9, 10, 11, 12, 13] rfl (by decide) rfl (by decide) (by decide) hl.1 rfl (Nat.le_of_ble_eq_true rfl) d_md_pour_8 ⟨Nat.zero_le _, Nat.zero_le _⟩ (fun v u H locs hpost hP hD hS => ?_)
  subst hpost
  refine W.eq (g2 := F0 m 11 ls [.int 1]) rfl ?_
  have hP : va_P D cls ([(h, .inr (3, [.ref r])), (r, .inl (cP, 3, .inr (.inr (.inr (.inr ft)))))] ++ (px cI a qs qk qv qb qn (2 ^ (4 + j)) Z K V P N (nI R.length) fr (nI mm) fi la) ++ (px cI a2 qs2 qk2 qv2 qb2 qn2 (2 ^ (4 + j2)) Z2 K2 V2 P2 N2 (nI R2.length) fr2 (nI mm2) fi2 la2)) H := hP
  have hD : va_D A ([(h, .inr (3, [.ref r])), (r, .inl (cP, 3, .inr (.inr (.inr (.inr ft)))))] ++ (px cI a qs qk qv qb qn (2 ^ (4 + j)) Z K V P N (nI R.length) fr (nI mm) fi la) ++ (px cI a2 qs2 qk2 qv2 qb2 qn2 (2 ^ (4 + j2)) Z2 K2 V2 P2 N2 (nI R2.length) fr2 (nI mm2) fi2 la2)) := hD
  refine lv_if_eq (tgt := 44) hx hb d_md_pour_11 (by decide) (fun z9 => absurd z9 (by decide)) (fun _ => ?_)
  refine lv_iload_n hx hb d_md_pour_14 rfl (lv_at hl 1 rfl) ?_
  refine lv_iload_n hx hb d_md_pour_15 rfl (lv_at hl 2 rfl) ?_
  refine lv_icmp_eq (tgt := 44) hx hb d_md_pour_16 (by decide) (fun z9 => absurd z9 (fun z9 => hne ((nI_eq (by omega) (by omega)).mp z9))) (fun _ => ?_)
  refine lv_aload_n hx hb d_md_pour_19 rfl (lv_at hl 0 rfl) ?_
  refine va_get (D := D) (ci := 3) (v := .ref r) (C := R_md) (T := F_md) (N := 1) hx hb hts i_md hown hK hP 0 rfl rfl 0 (by decide) (hts _ kf_md_12) (fun _ h9 => h9) rfl d_md_pour_20 ?_
  refine lv_iload_n hx hb d_md_pour_23 rfl (lv_at hl 1 rfl) ?_
  refine wa_ald (k := k1) (b := a) hx hb hK hP 1 2 rfl rfl hk1 (by decide) hf1 d_md_pour_24 ?_
  refine va_get (D := D) (ci := 2) (v := .int (nI R.length)) (C := R_pr) (T := F_pr) (N := 10) hx hb hts i_pr hown hK hP 2 rfl rfl 5 (by decide) (hts _ kf_md_50) (fun _ h9 => h9) rfl d_md_pour_25 ?_
  refine lv_aload_n hx hb d_md_pour_28 rfl (lv_at hl 0 rfl) ?_
  refine va_get (D := D) (ci := 3) (v := .ref r) (C := R_md) (T := F_md) (N := 1) hx hb hts i_md hown hK hP 0 rfl rfl 0 (by decide) (hts _ kf_md_12) (fun _ h9 => h9) rfl d_md_pour_29 ?_
  refine lv_iload_n hx hb d_md_pour_32 rfl (lv_at hl 2 rfl) ?_
  refine wa_ald (k := k2) (b := a2) hx hb hK hP 1 2 rfl rfl hk2 (by decide) hf2 d_md_pour_33 ?_
  refine va_get (D := D) (ci := 2) (v := .int (nI R2.length)) (C := R_pr) (T := F_pr) (N := 10) hx hb hts i_pr hown hK hP 8 rfl rfl 5 (by decide) (hts _ kf_md_50) (fun _ h9 => h9) rfl d_md_pour_34 ?_
  refine lv_iadd hx hb d_md_pour_37 ?_
  refine tp_i (y := nI (R.length + R2.length)) (nI_add _ _) ?_
  refine lv_sipush (v := 1400) hx hb d_md_pour_38 (by decide) ?_
  by_cases hc : R.length + R2.length ≤ 1400
  · refine lv_icmp_le (tgt := 46) hx hb d_md_pour_41 (by decide) (fun _ => ?_) (fun z9 => absurd (nI_le (b := 1400) hc (by decide)) z9)
    refine lv_iload_n hx hb d_md_pour_46 rfl (lv_at hl 1 rfl) ?_
    have hcd : decide (L.length + L2.length ≤ 1400) = true := decide_eq_true (by omega)
    by_cases hk0 : k1 = 0
    · refine lv_if_ne (tgt := 113) hx hb d_md_pour_47 (by decide) (fun z9 => absurd (by rw [hk0]; rfl) z9) (fun _ => ?_)
      refine lv_iload_n hx hb d_md_pour_50 rfl (lv_at hl 2 rfl) ?_
      refine lv_iconst (v := 1) hx hb d_md_pour_51 (by decide) ?_
      by_cases hk3 : k2 = 1
      · refine lv_icmp_eq (tgt := 57) hx hb d_md_pour_52 (by decide) (fun _ => ?_) (fun z9 => absurd (by rw [hk3]; rfl) z9)
        have hf0 : ft 0 = some a := by rw [← hk0]; exact hf1
        have hf3 : ft 1 = some a2 := by rw [← hk3]; exact hf2
        refine lv_iconst (v := 0) hx hb d_md_pour_57 (by decide) ?_
        refine lv_istore_n (lv' := [(3, .int 0), (0, .ref h), (1, .int (nI k1)), (2, .int (nI k2))]) hx hb d_md_pour_58 rfl hl (by decide) rfl (fun ls hl => ?_)
        have loop : ∀ (l2 l1 : List Nat), Sp = l1 ++ l2 → (∀ y, y ∈ l1 → (lk (K y) L2).isSome = true) → ∀ (H : Heap) (locs : List Loc), va_P D cls ([(h, .inr (3, [.ref r])), (r, .inl (cP, 3, .inr (.inr (.inr (.inr ft)))))] ++ (px cI a qs qk qv qb qn (2 ^ (4 + j)) Z K V P N (nI R.length) fr (nI mm) fi la) ++ (px cI a2 qs2 qk2 qv2 qb2 qn2 (2 ^ (4 + j2)) Z2 K2 V2 P2 N2 (nI R2.length) fr2 (nI mm2) fi2 la2)) H → va_D A ([(h, .inr (3, [.ref r])), (r, .inl (cP, 3, .inr (.inr (.inr (.inr ft)))))] ++ (px cI a qs qk qv qb qn (2 ^ (4 + j)) Z K V P N (nI R.length) fr (nI mm) fi la) ++ (px cI a2 qs2 qk2 qv2 qb2 qn2 (2 ^ (4 + j2)) Z2 K2 V2 P2 N2 (nI R2.length) fr2 (nI mm2) fi2 la2)) → va_S A s.heap H locs → ∀ ls : Array Slot, lv_has ls 4 [(0, .ref h), (1, .int (nI k1)), (2, .int (nI k2)), (3, .int (nI l1.length))] → W p l e (rmL 5 (mcR j2 (ppr k1 k2 (decide (k2 = 2)) (j2, L2) L).1) (msR j2 (ppr k1 k2 (decide (k2 = 2)) (j2, L2) L).1)) s m args below meth c H locs 0 0 Q (F0 m 59 ls []) := by
          clear hP hD hS
          intro l2
          induction l2 with
          | nil =>
            intro l1 eS hall H locs hP hD hS ls hl
            have hl1 : l1 = Sp := by rw [eS, List.append_nil]
            have hka2 : hka L2 L = true := by
              rw [eL]
              unfold hka kv
              rw [List.all_eq_true]
              intro e9 hq
              obtain ⟨z9, hy, rfl⟩ := List.mem_map.mp hq
              exact hall z9 (by rw [hl1]; exact hPS.1.mem_iff.mpr hy)
            refine lv_iload_n hx hb d_md_pour_59 rfl (lv_at hl 3 rfl) ?_
            refine lv_aload_n hx hb d_md_pour_60 rfl (lv_at hl 0 rfl) ?_
            refine va_get (D := D) (ci := 3) (v := .ref r) (C := R_md) (T := F_md) (N := 1) hx hb hts i_md hown hK hP 0 rfl rfl 0 (by decide) (hts _ kf_md_12) (fun _ h9 => h9) rfl d_md_pour_61 ?_
            refine lv_iconst (v := 0) hx hb d_md_pour_64 (by decide) ?_
            refine wa_ald (k := 0) (b := a) hx hb hK hP 1 2 rfl rfl (by decide) (by decide) hf0 d_md_pour_65 ?_
            refine va_get (D := D) (ci := 2) (v := .int (nI R.length)) (C := R_pr) (T := F_pr) (N := 10) hx hb hts i_pr hown hK hP 2 rfl rfl 5 (by decide) (hts _ kf_md_50) (fun _ h9 => h9) rfl d_md_pour_66 ?_
            refine lv_icmp_ge (tgt := 113) hx hb d_md_pour_69 (by decide) (fun _ => ?_) (fun z9 => absurd (by rw [hl1, hSl]; exact nI_le (Nat.le_refl _) (by omega)) z9)
            exact fin trivial (by unfold po_; rw [hcd, hka2]; simp [hk3]) _ _ hP hD hS ls (lv_sub hl [0, 1, 2] rfl)
          | cons x l2 ih =>
            intro l1 eS hall H locs hP hD hS ls hl
            have hxS : x ∈ Sp := by rw [eS]; exact List.mem_append_right _ (List.mem_cons_self ..)
            have hxR := hPS.1.mem_iff.mp hxS
            have hxn := pa_in hPA hxR
            have hlt : l1.length < R.length := by rw [← hSl, eS, List.length_append, List.length_cons]; omega
            have sZ : Z l1.length = nI x := by
              rw [hPS.2.2 _ (by omega), eS, getD_hd]
              rfl
            refine lv_iload_n hx hb d_md_pour_59 rfl (lv_at hl 3 rfl) ?_
            refine lv_aload_n hx hb d_md_pour_60 rfl (lv_at hl 0 rfl) ?_
            refine va_get (D := D) (ci := 3) (v := .ref r) (C := R_md) (T := F_md) (N := 1) hx hb hts i_md hown hK hP 0 rfl rfl 0 (by decide) (hts _ kf_md_12) (fun _ h9 => h9) rfl d_md_pour_61 ?_
            refine lv_iconst (v := 0) hx hb d_md_pour_64 (by decide) ?_
            refine wa_ald (k := 0) (b := a) hx hb hK hP 1 2 rfl rfl (by decide) (by decide) hf0 d_md_pour_65 ?_
            refine va_get (D := D) (ci := 2) (v := .int (nI R.length)) (C := R_pr) (T := F_pr) (N := 10) hx hb hts i_pr hown hK hP 2 rfl rfl 5 (by decide) (hts _ kf_md_50) (fun _ h9 => h9) rfl d_md_pour_66 ?_
            refine lv_icmp_ge (tgt := 113) hx hb d_md_pour_69 (by decide) (fun z9 => absurd z9 (nI_ge hlt (by omega))) (fun _ => ?_)
            refine lv_aload_n hx hb d_md_pour_72 rfl (lv_at hl 0 rfl) ?_
            refine va_get (D := D) (ci := 3) (v := .ref r) (C := R_md) (T := F_md) (N := 1) hx hb hts i_md hown hK hP 0 rfl rfl 0 (by decide) (hts _ kf_md_12) (fun _ h9 => h9) rfl d_md_pour_73 ?_
            refine lv_iconst (v := 1) hx hb d_md_pour_76 (by decide) ?_
            refine wa_ald (k := 1) (b := a2) hx hb hK hP 1 2 rfl rfl (by decide) (by decide) hf3 d_md_pour_77 ?_
            refine lv_aload_n hx hb d_md_pour_78 rfl (lv_at hl 0 rfl) ?_
            refine va_get (D := D) (ci := 3) (v := .ref r) (C := R_md) (T := F_md) (N := 1) hx hb hts i_md hown hK hP 0 rfl rfl 0 (by decide) (hts _ kf_md_12) (fun _ h9 => h9) rfl d_md_pour_79 ?_
            refine lv_iconst (v := 0) hx hb d_md_pour_82 (by decide) ?_
            refine wa_ald (k := 0) (b := a) hx hb hK hP 1 2 rfl rfl (by decide) (by decide) hf0 d_md_pour_83 ?_
            refine va_get (D := D) (ci := 2) (v := .ref qk) (C := R_pr) (T := F_pr) (N := 10) hx hb hts i_pr hown hK hP 2 rfl rfl 1 (by decide) (hts _ kf_md_60) (fun _ h9 => h9) rfl d_md_pour_84 ?_
            refine lv_aload_n hx hb d_md_pour_87 rfl (lv_at hl 0 rfl) ?_
            refine va_get (D := D) (ci := 3) (v := .ref r) (C := R_md) (T := F_md) (N := 1) hx hb hts i_md hown hK hP 0 rfl rfl 0 (by decide) (hts _ kf_md_12) (fun _ h9 => h9) rfl d_md_pour_88 ?_
            refine lv_iconst (v := 0) hx hb d_md_pour_91 (by decide) ?_
            refine wa_ald (k := 0) (b := a) hx hb hK hP 1 2 rfl rfl (by decide) (by decide) hf0 d_md_pour_92 ?_
            refine va_get (D := D) (ci := 2) (v := .ref qs) (C := R_pr) (T := F_pr) (N := 10) hx hb hts i_pr hown hK hP 2 rfl rfl 0 (by decide) (hts _ kf_md_54) (fun _ h9 => h9) rfl d_md_pour_93 ?_
            refine lv_iload_n hx hb d_md_pour_96 rfl (lv_at hl 3 rfl) ?_
            refine wa_ld (k := l1.length) hx hb hK hP 3 0 rfl rfl (by omega) hn d_md_pour_97 ?_
            refine tp_i (y := nI x) sZ ?_
            refine wa_ld (k := x) hx hb hK hP 4 0 rfl rfl hxn.2 hn d_md_pour_98 ?_
            refine cg_V (hn := 1) (As := [.int (K x)]) (rest := []) (wr := [(h, .inr (3, [.ref r])), (r, .inl (cP, 3, .inr (.inr (.inr (.inr ft)))))] ++ (px cI a qs qk qv qb qn (2 ^ (4 + j)) Z K V P N (nI R.length) fr (nI mm) fi la)) (q0 := 0) (ci := 2) hx hb hml hown hts (c_pr_find l D cI cT cP a2 qs2 qk2 qv2 qb2 qn2 (2 ^ (4 + j2)) Z2 K2 V2 P2 N2 fr2 (nI mm2) fi2 la2 j2 mm2 R2 Fr2 Sp2 hPA2 hPS2 (K x)) km_md_26 ki_pr_find ks_pr_find kn_pr kc_pr_find (by decide +kernel) rfl ⟨Nat.le_of_ble_eq_true rfl, Nat.le_of_ble_eq_true rfl⟩ hK hP hD hS hA [8, 9, 10, 11, 12, 13] [0, 1, 2, 3, 4, 5, 6, 7] rfl (by decide) rfl (by decide) (by decide) rfl rfl hl.1 rfl (Nat.le_of_ble_eq_true rfl) d_md_pour_99 ⟨Nat.zero_le _, Nat.zero_le _⟩ (fun v u H locs hpost hP hD hS => ?_)
            subst hpost
            refine W.eq (g2 := F0 m 102 ls [.int (io (so K2 (K x) R2))]) rfl ?_
            have hP : va_P D cls ([(h, .inr (3, [.ref r])), (r, .inl (cP, 3, .inr (.inr (.inr (.inr ft)))))] ++ (px cI a qs qk qv qb qn (2 ^ (4 + j)) Z K V P N (nI R.length) fr (nI mm) fi la) ++ (px cI a2 qs2 qk2 qv2 qb2 qn2 (2 ^ (4 + j2)) Z2 K2 V2 P2 N2 (nI R2.length) fr2 (nI mm2) fi2 la2)) H := hP
            have hD : va_D A ([(h, .inr (3, [.ref r])), (r, .inl (cP, 3, .inr (.inr (.inr (.inr ft)))))] ++ (px cI a qs qk qv qb qn (2 ^ (4 + j)) Z K V P N (nI R.length) fr (nI mm) fi la) ++ (px cI a2 qs2 qk2 qv2 qb2 qn2 (2 ^ (4 + j2)) Z2 K2 V2 P2 N2 (nI R2.length) fr2 (nI mm2) fi2 la2)) := hD
            rcases so_cases K2 (K x) R2 with ⟨e0, hno⟩ | ⟨y, e0, hyR, hke⟩
            · rw [e0]
              have hkL : lk (K x) L2 = none := by rw [eL2]; exact kv_out hno
              have hka2 : hka L2 L = false := by rw [eL]; unfold hka kv; rw [List.all_eq_false]; exact ⟨_, List.mem_map.mpr ⟨x, hxR, rfl⟩, by simp [hkL]⟩
              refine lv_if_ge (tgt := 107) hx hb d_md_pour_102 (by decide) (fun z9 => absurd z9 m1_nge) (fun _ => ?_)
              have hpo : po_ k1 k2 L L2 = false := by unfold po_; rw [hka2]; simp [hk0]
              have ep : ppr k1 k2 (decide (k2 = 2)) (j2, L2) L = (j2, L2) := by unfold ppr; rw [show po_ k1 k2 L (j2, L2).2 = false from hpo]; rfl
              refine lv_iconst (v := (-1)) hx hb d_md_pour_105 (by decide) ?_
              refine W.widen (k := mcR j2 (ppr k1 k2 (decide (k2 = 2)) (j2, L2) L).1) (n := msR j2 (ppr k1 k2 (decide (k2 = 2)) (j2, L2) L).1) (Nat.zero_le _) (Nat.zero_le _) ?_
              have hP : va_P D cls ([(h, .inr (3, [.ref r])), (r, .inl (cP, 3, .inr (.inr (.inr (.inr ft)))))] ++ (px cI a qs qk qv qb qn (2 ^ (4 + j)) Z K V P N (nI R.length) fr (nI mm) fi la) ++ (pw cI a2 (ppr k1 k2 (decide (k2 = 2)) (j2, L2) L).1 (qs2, qk2, qv2, qb2, qn2, Z2, K2, V2, P2, N2, fr2, mm2, fi2, la2, R2))) H := by rw [ep]; exact hP
              have hD : va_D A ([(h, .inr (3, [.ref r])), (r, .inl (cP, 3, .inr (.inr (.inr (.inr ft)))))] ++ (px cI a qs qk qv qb qn (2 ^ (4 + j)) Z K V P N (nI R.length) fr (nI mm) fi la) ++ (pw cI a2 (ppr k1 k2 (decide (k2 = 2)) (j2, L2) L).1 (qs2, qk2, qv2, qb2, qn2, Z2, K2, V2, P2, N2, fr2, mm2, fi2, la2, R2))) := by rw [ep]; exact hD
              exact cg_iret (u := (qs2, qk2, qv2, qb2, qn2, Z2, K2, V2, P2, N2, fr2, mm2, fi2, la2, R2)) hQ hx hb hr hlk hK hP hD hS (⟨by unfold par_; rw [show po_ k1 k2 L (j2, L2).2 = false from hpo]; rfl, by rw [ep]; exact ⟨Fr2, Sp2, hPA2, hPN2, hPS2, hsF2, eL2⟩⟩) d_md_pour_106
            · rw [e0]
              have hyn := pa_in hPA2 hyR
              have hkL : lk (K x) L2 = some (V2 y) := by rw [eL2, ← hke]; exact kv_at hyR hnd2
              refine lv_if_ge (tgt := 107) hx hb d_md_pour_102 (by decide) (fun _ => ?_) (fun z9 => absurd (nI_pos' (by omega)) z9)
              refine lv_iinc (v := nI (l1 ++ [x]).length) (lv' := [(3, .int (nI (l1 ++ [x]).length)), (0, .ref h), (1, .int (nI k1)), (2, .int (nI k2))]) hx hb d_md_pour_107 hl (k := 3) rfl (inc_l l1 x) (by decide) rfl (fun ls hl => ?_)
              refine lv_goto (tgt := 59) hx hb d_md_pour_110 (by decide) ?_
              exact ih (l1 ++ [x]) (by rw [eS]; simp) (fun y hy => by
                  rcases List.mem_append.mp hy with h3 | h3
                  · exact hall y h3
                  · rw [List.mem_singleton.mp h3, hkL]; rfl) _ _ hP hD hS ls (lv_sub hl [1, 2, 3, 0] rfl)
        exact loop Sp [] rfl (fun y hy => absurd hy List.not_mem_nil) _ _ hP hD hS ls (lv_sub hl [1, 2, 3, 0] rfl)
      · refine lv_icmp_eq (tgt := 57) hx hb d_md_pour_52 (by decide) (fun z9 => absurd z9 (fun z9 => hk3 ((nI_eq (b := 1) (by omega) (by decide)).mp z9))) (fun _ => ?_)
        have hpo : po_ k1 k2 L L2 = false := by unfold po_; simp [hk0, hk3]
        have ep : ppr k1 k2 (decide (k2 = 2)) (j2, L2) L = (j2, L2) := by unfold ppr; rw [show po_ k1 k2 L (j2, L2).2 = false from hpo]; rfl
        refine lv_iconst (v := (-1)) hx hb d_md_pour_55 (by decide) ?_
        refine W.widen (k := mcR j2 (ppr k1 k2 (decide (k2 = 2)) (j2, L2) L).1) (n := msR j2 (ppr k1 k2 (decide (k2 = 2)) (j2, L2) L).1) (Nat.zero_le _) (Nat.zero_le _) ?_
        have hP : va_P D cls ([(h, .inr (3, [.ref r])), (r, .inl (cP, 3, .inr (.inr (.inr (.inr ft)))))] ++ (px cI a qs qk qv qb qn (2 ^ (4 + j)) Z K V P N (nI R.length) fr (nI mm) fi la) ++ (pw cI a2 (ppr k1 k2 (decide (k2 = 2)) (j2, L2) L).1 (qs2, qk2, qv2, qb2, qn2, Z2, K2, V2, P2, N2, fr2, mm2, fi2, la2, R2))) H := by rw [ep]; exact hP
        have hD : va_D A ([(h, .inr (3, [.ref r])), (r, .inl (cP, 3, .inr (.inr (.inr (.inr ft)))))] ++ (px cI a qs qk qv qb qn (2 ^ (4 + j)) Z K V P N (nI R.length) fr (nI mm) fi la) ++ (pw cI a2 (ppr k1 k2 (decide (k2 = 2)) (j2, L2) L).1 (qs2, qk2, qv2, qb2, qn2, Z2, K2, V2, P2, N2, fr2, mm2, fi2, la2, R2))) := by rw [ep]; exact hD
        exact cg_iret (u := (qs2, qk2, qv2, qb2, qn2, Z2, K2, V2, P2, N2, fr2, mm2, fi2, la2, R2)) hQ hx hb hr hlk hK hP hD hS (⟨by unfold par_; rw [show po_ k1 k2 L (j2, L2).2 = false from hpo]; rfl, by rw [ep]; exact ⟨Fr2, Sp2, hPA2, hPN2, hPS2, hsF2, eL2⟩⟩) d_md_pour_56
    · refine lv_if_ne (tgt := 113) hx hb d_md_pour_47 (by decide) (fun _ => ?_) (fun z9 => absurd z9 (nI_ne0 (by omega) (by omega)))
      exact fin trivial (by unfold po_; rw [hcd]; simp [hk0]) _ _ hP hD hS ls (lv_sub hl [0, 1, 2] rfl)
  · refine lv_icmp_le (tgt := 46) hx hb d_md_pour_41 (by decide) (fun z9 => absurd z9 (fun z9 => hc ((nI_leI (b := 1400) (by omega) (by decide)).mp z9))) (fun _ => ?_)
    have hpo : po_ k1 k2 L L2 = false := by unfold po_; rw [decide_eq_false (by omega)]; rfl
    have ep : ppr k1 k2 (decide (k2 = 2)) (j2, L2) L = (j2, L2) := by unfold ppr; rw [show po_ k1 k2 L (j2, L2).2 = false from hpo]; rfl
    refine lv_iconst (v := (-1)) hx hb d_md_pour_44 (by decide) ?_
    refine W.widen (k := mcR j2 (ppr k1 k2 (decide (k2 = 2)) (j2, L2) L).1) (n := msR j2 (ppr k1 k2 (decide (k2 = 2)) (j2, L2) L).1) (Nat.zero_le _) (Nat.zero_le _) ?_
    have hP : va_P D cls ([(h, .inr (3, [.ref r])), (r, .inl (cP, 3, .inr (.inr (.inr (.inr ft)))))] ++ (px cI a qs qk qv qb qn (2 ^ (4 + j)) Z K V P N (nI R.length) fr (nI mm) fi la) ++ (pw cI a2 (ppr k1 k2 (decide (k2 = 2)) (j2, L2) L).1 (qs2, qk2, qv2, qb2, qn2, Z2, K2, V2, P2, N2, fr2, mm2, fi2, la2, R2))) H := by rw [ep]; exact hP
    have hD : va_D A ([(h, .inr (3, [.ref r])), (r, .inl (cP, 3, .inr (.inr (.inr (.inr ft)))))] ++ (px cI a qs qk qv qb qn (2 ^ (4 + j)) Z K V P N (nI R.length) fr (nI mm) fi la) ++ (pw cI a2 (ppr k1 k2 (decide (k2 = 2)) (j2, L2) L).1 (qs2, qk2, qv2, qb2, qn2, Z2, K2, V2, P2, N2, fr2, mm2, fi2, la2, R2))) := by rw [ep]; exact hD
    exact cg_iret (u := (qs2, qk2, qv2, qb2, qn2, Z2, K2, V2, P2, N2, fr2, mm2, fi2, la2, R2)) hQ hx hb hr hlk hK hP hD hS (⟨by unfold par_; rw [show po_ k1 k2 L (j2, L2).2 = false from hpo]; rfl, by rw [ep]; exact ⟨Fr2, Sp2, hPA2, hPN2, hPS2, hsF2, eL2⟩⟩) d_md_pour_45
set_option maxRecDepth 100000 in
set_option maxHeartbeats 4000000 in
/-- pour, refused -/
theorem c_md_pour_x (l : Launch) (D : va_G) (cI cT cP : ClassId) (h r : Nat) (q1 q2 : Int32) (hq : bad q1 ∨ bad q2 ∨ q1 = q2) : Cg l y_md_pour b_md_pour 4 (some .int) 5 0 0 D (ty3 cI cT cP) [.ref h, .int q1, .int q2] ([(h, .inr (3, [.ref r]))]) (fun (v : Option Value) (u : Unit) => v = some (.int (-1))) (fun u => [(h, .inr (3, [.ref r]))]) := by
  refine cg_enter rfl (Nat.le_of_ble_eq_true rfl) ?_
  intro p e s m below meth c args hx hb hr hlk hml hown hin hts A hA hK hP hD hS ls hl Q hQ
  have hl : lv_has ls 4 [(0, .ref h), (1, .int q1), (2, .int q2)] := hl
  have hP : va_P D cls ([(h, .inr (3, [.ref r]))]) s.heap := hP
  have hD : va_D A ([(h, .inr (3, [.ref r]))]) := hD
  rcases bad_or q1 with b1 | ⟨k1, hk1, e1⟩
  · refine lv_iload_n hx hb d_md_pour_0 rfl (lv_at hl 1 rfl) ?_
    refine cg_S (hn := 1) (As := [.int q1]) (rest := []) (wr := [(h, .inr (3, [.ref r]))]) hx hb hml hown hts (c_md_isMap_x l D cI cT cP q1 b1) km_md_20 kt_md_isMap kn_md kc_md_isMap (by decide +kernel) rfl ⟨Nat.le_of_ble_eq_true rfl, Nat.le_of_ble_eq_true rfl⟩ hK hP hD hS hA [] [0] rfl (by decide) rfl (by decide) (by decide) hl.1 rfl (Nat.le_of_ble_eq_true rfl) d_md_pour_1 ⟨Nat.zero_le _, Nat.zero_le _⟩ (fun v u H locs hpost hP hD hS => ?_)
    subst hpost
    refine W.eq (g2 := F0 m 4 ls [.int 0]) rfl ?_
    have hP : va_P D cls ([(h, .inr (3, [.ref r]))]) H := hP
    have hD : va_D A ([(h, .inr (3, [.ref r]))]) := hD
    refine lv_if_eq (tgt := 44) hx hb d_md_pour_4 (by decide) (fun _ => ?_) (fun z9 => absurd rfl z9)
    refine lv_iconst (v := (-1)) hx hb d_md_pour_44 (by decide) ?_
    exact cg_iret (u := ()) hQ hx hb hr hlk hK hP hD hS rfl d_md_pour_45
  · have n1 : ¬ bad q1 := fun z8 => by rw [e1] at z8; exact z8.elim (nI_pos (by omega)) (nI_ge hk1 (by decide))
    rcases bad_or q2 with b2 | ⟨k2, hk2, e2⟩
    · clear n1 hq
      subst e1
      refine lv_iload_n hx hb d_md_pour_0 rfl (lv_at hl 1 rfl) ?_
      refine cg_S (hn := 1) (As := [.int (nI k1)]) (rest := []) (wr := [(h, .inr (3, [.ref r]))]) hx hb hml hown hts (c_md_isMap l D cI cT cP k1 hk1) km_md_20 kt_md_isMap kn_md kc_md_isMap (by decide +kernel) rfl ⟨Nat.le_of_ble_eq_true rfl, Nat.le_of_ble_eq_true rfl⟩ hK hP hD hS hA [] [0] rfl (by decide) rfl (by decide) (by decide) hl.1 rfl (Nat.le_of_ble_eq_true rfl) d_md_pour_1 ⟨Nat.zero_le _, Nat.zero_le _⟩ (fun v u H locs hpost hP hD hS => ?_)
      subst hpost
      refine W.eq (g2 := F0 m 4 ls [.int 1]) rfl ?_
      have hP : va_P D cls ([(h, .inr (3, [.ref r]))]) H := hP
      have hD : va_D A ([(h, .inr (3, [.ref r]))]) := hD
      refine lv_if_eq (tgt := 44) hx hb d_md_pour_4 (by decide) (fun z9 => absurd z9 (by decide)) (fun _ => ?_)
      refine lv_iload_n hx hb d_md_pour_7 rfl (lv_at hl 2 rfl) ?_
      refine cg_S (hn := 1) (As := [.int q2]) (rest := []) (wr := [(h, .inr (3, [.ref r]))]) hx hb hml hown hts (c_md_isMap_x l D cI cT cP q2 b2) km_md_20 kt_md_isMap kn_md kc_md_isMap (by decide +kernel) rfl ⟨Nat.le_of_ble_eq_true rfl, Nat.le_of_ble_eq_true rfl⟩ hK hP hD hS hA [] [0] rfl (by decide) rfl (by decide) (by decide) hl.1 rfl (Nat.le_of_ble_eq_true rfl) d_md_pour_8 ⟨Nat.zero_le _, Nat.zero_le _⟩ (fun v u H locs hpost hP hD hS => ?_)
      subst hpost
      refine W.eq (g2 := F0 m 11 ls [.int 0]) rfl ?_
      have hP : va_P D cls ([(h, .inr (3, [.ref r]))]) H := hP
      have hD : va_D A ([(h, .inr (3, [.ref r]))]) := hD
      refine lv_if_eq (tgt := 44) hx hb d_md_pour_11 (by decide) (fun _ => ?_) (fun z9 => absurd rfl z9)
      refine lv_iconst (v := (-1)) hx hb d_md_pour_44 (by decide) ?_
      exact cg_iret (u := ()) hQ hx hb hr hlk hK hP hD hS rfl d_md_pour_45
    · have n2 : ¬ bad q2 := fun z8 => by rw [e2] at z8; exact z8.elim (nI_pos (by omega)) (nI_ge hk2 (by decide))
      have heq : q1 = q2 := hq.elim (fun z9 => absurd z9 n1) (fun z9 => z9.elim (fun z8 => absurd z8 n2) id)
      clear hq n1 n2
      subst e1
      subst e2
      refine lv_iload_n hx hb d_md_pour_0 rfl (lv_at hl 1 rfl) ?_
      refine cg_S (hn := 1) (As := [.int (nI k1)]) (rest := []) (wr := [(h, .inr (3, [.ref r]))]) hx hb hml hown hts (c_md_isMap l D cI cT cP k1 hk1) km_md_20 kt_md_isMap kn_md kc_md_isMap (by decide +kernel) rfl ⟨Nat.le_of_ble_eq_true rfl, Nat.le_of_ble_eq_true rfl⟩ hK hP hD hS hA [] [0] rfl (by decide) rfl (by decide) (by decide) hl.1 rfl (Nat.le_of_ble_eq_true rfl) d_md_pour_1 ⟨Nat.zero_le _, Nat.zero_le _⟩ (fun v u H locs hpost hP hD hS => ?_)
      subst hpost
      refine W.eq (g2 := F0 m 4 ls [.int 1]) rfl ?_
      have hP : va_P D cls ([(h, .inr (3, [.ref r]))]) H := hP
      have hD : va_D A ([(h, .inr (3, [.ref r]))]) := hD
      refine lv_if_eq (tgt := 44) hx hb d_md_pour_4 (by decide) (fun z9 => absurd z9 (by decide)) (fun _ => ?_)
      refine lv_iload_n hx hb d_md_pour_7 rfl (lv_at hl 2 rfl) ?_
      refine cg_S (hn := 1) (As := [.int (nI k2)]) (rest := []) (wr := [(h, .inr (3, [.ref r]))]) hx hb hml hown hts (c_md_isMap l D cI cT cP k2 hk2) km_md_20 kt_md_isMap kn_md kc_md_isMap (by decide +kernel) rfl ⟨Nat.le_of_ble_eq_true rfl, Nat.le_of_ble_eq_true rfl⟩ hK hP hD hS hA [] [0] rfl (by decide) rfl (by decide) (by decide) hl.1 rfl (Nat.le_of_ble_eq_true rfl) d_md_pour_8 ⟨Nat.zero_le _, Nat.zero_le _⟩ (fun v u H locs hpost hP hD hS => ?_)
      subst hpost
      refine W.eq (g2 := F0 m 11 ls [.int 1]) rfl ?_
      have hP : va_P D cls ([(h, .inr (3, [.ref r]))]) H := hP
      have hD : va_D A ([(h, .inr (3, [.ref r]))]) := hD
      refine lv_if_eq (tgt := 44) hx hb d_md_pour_11 (by decide) (fun z9 => absurd z9 (by decide)) (fun _ => ?_)
      refine lv_iload_n hx hb d_md_pour_14 rfl (lv_at hl 1 rfl) ?_
      refine lv_iload_n hx hb d_md_pour_15 rfl (lv_at hl 2 rfl) ?_
      refine lv_icmp_eq (tgt := 44) hx hb d_md_pour_16 (by decide) (fun _ => ?_) (fun z9 => absurd heq z9)
      refine lv_iconst (v := (-1)) hx hb d_md_pour_44 (by decide) ?_
      exact cg_iret (u := ()) hQ hx hb hr hlk hK hP hD hS rfl d_md_pour_45
