-- HashHallModel (4): printed by wip/whole/gen/md4.py
def fjr (mv : Bool) (f d : Int32) : Nat × List (Int32 × Int32) → Nat → Nat → Nat × List (Int32 × Int32)
  | jl, _, 0 => jl
  | jl, i, c + 1 => fjr mv f d (njrs jl.1 (f + nI i * d) jl.2, st mv (f + nI i * d) (nI i) jl.2) (i + 1) c
def fpr (mv : Bool) (f d n : Int32) (jl : Nat × List (Int32 × Int32)) : Nat × List (Int32 × Int32) := if fo n jl.2 then fjr mv f d jl 0 (fc n) else jl
def far (mv : Bool) (f d n : Int32) (jl : Nat × List (Int32 × Int32)) : Int32 := if fo n jl.2 then nI (fpr mv f d n jl).2.length else -1
theorem njr_le (j len : Nat) : j ≤ njr j len := by
  unfold njr
  split <;> omega
theorem njrs_le (j : Nat) (k : Int32) (L : List (Int32 × Int32)) : j ≤ njrs j k L := by
  unfold njrs
  split
  · exact njr_le _ _
  · exact Nat.le_refl _
theorem fjr_le {mv : Bool} {f d : Int32} {c : Nat} : ∀ (jl : Nat × List (Int32 × Int32)) (i : Nat), jl.1 ≤ (fjr mv f d jl i c).1 := by
  induction c with
  | zero => exact fun jl i => Nat.le_refl _
  | succ c ih => exact fun jl i => Nat.le_trans (njrs_le jl.1 (f + nI i * d) jl.2) (ih (njrs jl.1 (f + nI i * d) jl.2, st mv (f + nI i * d) (nI i) jl.2) (i + 1))
theorem mcR_add {a b c : Nat} (h1 : a ≤ b) (h2 : b ≤ c) : mcR a b + mcR b c = mcR a c := by
  unfold mcR
  omega
theorem msR_add {a b c : Nat} (h1 : a ≤ b) (h2 : b ≤ c) : msR a b + msR b c = msR a c := by
  unfold msR
  have e1 : 2 ^ (5 + a) ≤ 2 ^ (5 + b) := Nat.pow_le_pow_right (by decide) (by omega)
  have e2 : 2 ^ (5 + b) ≤ 2 ^ (5 + c) := Nat.pow_le_pow_right (by decide) (by omega)
  omega
theorem mcR_le {a b c : Nat} (h : b ≤ c) : mcR a b ≤ mcR a c := by
  unfold mcR
  omega
theorem msR_le {a b c : Nat} (h : b ≤ c) : msR a b ≤ msR a c := by
  unfold msR
  have e2 : 2 ^ (5 + b) ≤ 2 ^ (5 + c) := Nat.pow_le_pow_right (by decide) (by omega)
  omega
theorem nodup_perm {A B : List (Int32 × Int32)} (nA : A.Nodup) (nB : B.Nodup) (h : ∀ e, e ∈ A → e ∈ B) (hl : A.length = B.length) : A.Perm B := by
  refine (List.perm_ext_iff_of_nodup nA nB).mpr (fun e => ⟨h e, fun he => ?_⟩)
  by_cases c : e ∈ A
  · exact c
  · have h1 : (e :: A).Nodup := List.nodup_cons.mpr ⟨c, nA⟩
    have h2 := h1.length_le_of_subset (l₂ := B) (fun x hx => by
      rcases List.mem_cons.mp hx with rfl | hx
      · exact he
      · exact h x hx)
    simp only [List.length_cons] at h2
    omega
theorem nd_of_ks {L : List (Int32 × Int32)} (h : (ks_ L).Nodup) : L.Nodup := by
  induction L with
  | nil => exact List.nodup_nil
  | cons e L ih =>
    have h1 := List.nodup_cons.mp h
    exact List.nodup_cons.mpr ⟨fun z => h1.1 (List.mem_map_of_mem (f := Prod.fst) z), ih h1.2⟩
/-- the same entries: the same sorted rows -/
theorem mt_iff {K V K2 V2 Z Z2 : Nat → Int32} {R R2 Sp Sp2 : List Nat} (h1 : PS K Z R Sp) (h2 : PS K2 Z2 R2 Sp2) : mt (kv K V R) (kv K2 V2 R2) = true ↔ kv K V Sp = kv K2 V2 Sp2 := by
  have p1 : (kv K V Sp).Perm (kv K V R) := h1.1.map _
  have p2 : (kv K2 V2 Sp2).Perm (kv K2 V2 R2) := h2.1.map _
  have k1 : (ks_ (kv K V R)).Nodup := by rw [ks_kv]; exact ps_nd h1
  have k2 : (ks_ (kv K2 V2 R2)).Nodup := by rw [ks_kv]; exact ps_nd h2
  unfold mt
  rw [Bool.and_eq_true, decide_eq_true_eq, List.all_eq_true]
  constructor
  · rintro ⟨hl, ha⟩
    have hp : (kv K V R).Perm (kv K2 V2 R2) := nodup_perm (nd_of_ks k1) (nd_of_ks k2) (fun e he => lk_mem (by simpa using ha e he)) hl
    have hq : (kv K V Sp).Perm (kv K2 V2 Sp2) := (p1.trans hp).trans p2.symm
    refine List.Perm.eq_of_pairwise (le := fun a b => a.1 < b.1) (fun a b _ _ q1 q2 => ?_) ?_ ?_ hq
    · rw [Int32.lt_iff_toInt_lt] at q1 q2
      omega
    · exact List.pairwise_map.mpr h1.2.1
    · exact List.pairwise_map.mpr h2.2.1
  · intro e
    refine ⟨by rw [← p1.length_eq, ← p2.length_eq, e], fun x hx => ?_⟩
    have h3 : x ∈ kv K2 V2 R2 := p2.mem_iff.mp (by rw [← e]; exact p1.mem_iff.mpr hx)
    exact decide_eq_true ((lk_mem_iff k2).mpr h3)
set_option maxRecDepth 100000 in
set_option maxHeartbeats 4000000 in
/-- fill -/
theorem c_md_fill (l : Launch) (D : va_G) (cI cT cP : ClassId) (h r : Nat) (ft : Nat → Option Nat) (km : Nat) (hkm : km < 3) (a : Nat) (hft : ft km = some a) (j : Nat) (L : List (Int32 × Int32)) (u0 : PB) (hL : PL j L u0) (f0 s0 n0 : Int32) : Cg l y_md_fill b_md_fill 6 (some .int) 5 (mcR j (fpr (decide (km = 2)) f0 s0 n0 (j, L)).1) (msR j (fpr (decide (km = 2)) f0 s0 n0 (j, L)).1) D (ty3 cI cT cP) [.ref h, .int (nI km), .int f0, .int s0, .int n0] ([(h, .inr (3, [.ref r])), (r, .inl (cP, 3, .inr (.inr (.inr (.inr ft)))))] ++ (pw cI a j u0)) (fun (v : Option Value) (u : PB) => v = some (.int (far (decide (km = 2)) f0 s0 n0 (j, L))) ∧ PL (fpr (decide (km = 2)) f0 s0 n0 (j, L)).1 (fpr (decide (km = 2)) f0 s0 n0 (j, L)).2 u) (fun u => [(h, .inr (3, [.ref r])), (r, .inl (cP, 3, .inr (.inr (.inr (.inr ft)))))] ++ (pw cI a ((fpr (decide (km = 2)) f0 s0 n0 (j, L)).1) u)) := by
  obtain ⟨qs, qk, qv, qb, qn, Z, K, V, P, N, fr, mm, fi, la, R⟩ := u0
  obtain ⟨Fr, Sp, hPA, hPN, hPS, hsF, eL⟩ := hL
  have hPA : PA (2 ^ (4 + j)) j mm R Fr := hPA
  have hPN : PN P N fi la R := hPN
  have hPS : PS K Z R Sp := hPS
  have hsF : sg N fr Fr (-1) := hsF
  have eL : L = kv K V R := eL
  have hLl : L.length = R.length := by rw [eL]; exact List.length_map ..
  have hpn := pa_n hPA
  have hn : 2 ^ (4 + j) < 2 ^ 31 := by omega
  have hSl : Sp.length = R.length := hPS.1.length_eq
  have hin2 : ∀ x, x ∈ Sp → x < 2 ^ (4 + j) := fun x hx1 => (pa_in hPA (hPS.1.mem_iff.mp hx1)).2
  have hnd := ps_nd hPS
  refine cg_enter rfl (Nat.le_of_ble_eq_true rfl) ?_
  intro p e s m below meth c args hx hb hr hlk hml hown hin hts A hA hK hP hD hS ls hl Q hQ
  have hl : lv_has ls 6 [(0, .ref h), (1, .int (nI km)), (2, .int f0), (3, .int s0), (4, .int n0)] := hl
  have hP : va_P D cls ([(h, .inr (3, [.ref r])), (r, .inl (cP, 3, .inr (.inr (.inr (.inr ft)))))] ++ (px cI a qs qk qv qb qn (2 ^ (4 + j)) Z K V P N (nI R.length) fr (nI mm) fi la)) s.heap := hP
  have hD : va_D A ([(h, .inr (3, [.ref r])), (r, .inl (cP, 3, .inr (.inr (.inr (.inr ft)))))] ++ (px cI a qs qk qv qb qn (2 ^ (4 + j)) Z K V P N (nI R.length) fr (nI mm) fi la)) := hD
  refine lv_iload_n hx hb d_md_fill_0 rfl (lv_at hl 1 rfl) ?_
  refine cg_S (hn := 1) (As := [.int (nI km)]) (rest := []) (wr := [(h, .inr (3, [.ref r])), (r, .inl (cP, 3, .inr (.inr (.inr (.inr ft)))))] ++ (px cI a qs qk qv qb qn (2 ^ (4 + j)) Z K V P N (nI R.length) fr (nI mm) fi la)) hx hb hml hown hts (c_md_isMap l D cI cT cP km hkm) km_md_20 kt_md_isMap kn_md kc_md_isMap (by decide +kernel) rfl ⟨Nat.le_of_ble_eq_true rfl, Nat.le_of_ble_eq_true rfl⟩ hK hP hD hS hA [] [0, 1, 2, 3, 4, 5, 6, 7] rfl (by decide) rfl (by decide) (by decide) hl.1 rfl (Nat.le_of_ble_eq_true rfl) d_md_fill_1 ⟨Nat.zero_le _, Nat.zero_le _⟩ (fun v u H locs hpost hP hD hS => ?_)
  subst hpost
  refine W.eq (g2 := F0 m 4 ls [.int 1]) rfl ?_
  have hP : va_P D cls ([(h, .inr (3, [.ref r])), (r, .inl (cP, 3, .inr (.inr (.inr (.inr ft)))))] ++ (px cI a qs qk qv qb qn (2 ^ (4 + j)) Z K V P N (nI R.length) fr (nI mm) fi la)) H := hP
  have hD : va_D A ([(h, .inr (3, [.ref r])), (r, .inl (cP, 3, .inr (.inr (.inr (.inr ft)))))] ++ (px cI a qs qk qv qb qn (2 ^ (4 + j)) Z K V P N (nI R.length) fr (nI mm) fi la)) := hD
  refine lv_if_eq (tgt := 36) hx hb d_md_fill_4 (by decide) (fun z9 => absurd z9 (by decide)) (fun _ => ?_)
  refine lv_iload hx hb d_md_fill_7 (lv_at hl 4 rfl) ?_
  refine lv_iconst (v := 1) hx hb d_md_fill_9 (by decide) ?_
  rcases fc_cases n0 with ⟨h1, h2⟩ | ⟨h1, h1b, h2⟩ | ⟨c0, h1, h2, h3, h4⟩
  · refine lv_icmp_lt (tgt := 36) hx hb d_md_fill_10 (by decide) (fun _ => ?_) (fun z9 => absurd h1 z9)
    have hfo : fo n0 L = false := decide_eq_false (fun z9 => by omega)
    have ep : fpr (decide (km = 2)) f0 s0 n0 (j, L) = (j, L) := by unfold fpr; rw [hfo]; rfl
    refine lv_iconst (v := (-1)) hx hb d_md_fill_36 (by decide) ?_
    refine W.widen (k := mcR j (fpr (decide (km = 2)) f0 s0 n0 (j, L)).1) (n := msR j (fpr (decide (km = 2)) f0 s0 n0 (j, L)).1) (Nat.zero_le _) (Nat.zero_le _) ?_
    have hP : va_P D cls ([(h, .inr (3, [.ref r])), (r, .inl (cP, 3, .inr (.inr (.inr (.inr ft)))))] ++ (pw cI a (fpr (decide (km = 2)) f0 s0 n0 (j, L)).1 (qs, qk, qv, qb, qn, Z, K, V, P, N, fr, mm, fi, la, R))) H := by rw [ep]; exact hP
    have hD : va_D A ([(h, .inr (3, [.ref r])), (r, .inl (cP, 3, .inr (.inr (.inr (.inr ft)))))] ++ (pw cI a (fpr (decide (km = 2)) f0 s0 n0 (j, L)).1 (qs, qk, qv, qb, qn, Z, K, V, P, N, fr, mm, fi, la, R))) := by rw [ep]; exact hD
    exact cg_iret (u := (qs, qk, qv, qb, qn, Z, K, V, P, N, fr, mm, fi, la, R)) hQ hx hb hr hlk hK hP hD hS (⟨by unfold far; rw [show fo n0 (j, L).2 = false from hfo]; rfl, by rw [ep]; exact ⟨Fr, Sp, hPA, hPN, hPS, hsF, eL⟩⟩) d_md_fill_37
  · refine lv_icmp_lt (tgt := 36) hx hb d_md_fill_10 (by decide) (fun z9 => absurd z9 h1b) (fun _ => ?_)
    refine lv_iload hx hb d_md_fill_13 (lv_at hl 4 rfl) ?_
    refine lv_sipush (v := 400) hx hb d_md_fill_15 (by decide) ?_
    refine lv_icmp_gt (tgt := 36) hx hb d_md_fill_18 (by decide) (fun _ => ?_) (fun z9 => absurd h1 z9)
    have hfo : fo n0 L = false := decide_eq_false (fun z9 => by omega)
    have ep : fpr (decide (km = 2)) f0 s0 n0 (j, L) = (j, L) := by unfold fpr; rw [hfo]; rfl
    refine lv_iconst (v := (-1)) hx hb d_md_fill_36 (by decide) ?_
    refine W.widen (k := mcR j (fpr (decide (km = 2)) f0 s0 n0 (j, L)).1) (n := msR j (fpr (decide (km = 2)) f0 s0 n0 (j, L)).1) (Nat.zero_le _) (Nat.zero_le _) ?_
    have hP : va_P D cls ([(h, .inr (3, [.ref r])), (r, .inl (cP, 3, .inr (.inr (.inr (.inr ft)))))] ++ (pw cI a (fpr (decide (km = 2)) f0 s0 n0 (j, L)).1 (qs, qk, qv, qb, qn, Z, K, V, P, N, fr, mm, fi, la, R))) H := by rw [ep]; exact hP
    have hD : va_D A ([(h, .inr (3, [.ref r])), (r, .inl (cP, 3, .inr (.inr (.inr (.inr ft)))))] ++ (pw cI a (fpr (decide (km = 2)) f0 s0 n0 (j, L)).1 (qs, qk, qv, qb, qn, Z, K, V, P, N, fr, mm, fi, la, R))) := by rw [ep]; exact hD
    exact cg_iret (u := (qs, qk, qv, qb, qn, Z, K, V, P, N, fr, mm, fi, la, R)) hQ hx hb hr hlk hK hP hD hS (⟨by unfold far; rw [show fo n0 (j, L).2 = false from hfo]; rfl, by rw [ep]; exact ⟨Fr, Sp, hPA, hPN, hPS, hsF, eL⟩⟩) d_md_fill_37
  · refine lv_icmp_lt (tgt := 36) hx hb d_md_fill_10 (by decide) (fun z9 => absurd z9 (by rw [h3]; exact nI_nlt h1 (by omega))) (fun _ => ?_)
    refine lv_iload hx hb d_md_fill_13 (lv_at hl 4 rfl) ?_
    refine lv_sipush (v := 400) hx hb d_md_fill_15 (by decide) ?_
    refine lv_icmp_gt (tgt := 36) hx hb d_md_fill_18 (by decide) (fun z9 => absurd z9 (by rw [h3]; exact nI_nlt h2 (by decide))) (fun _ => ?_)
    refine lv_aload_n hx hb d_md_fill_21 rfl (lv_at hl 0 rfl) ?_
    refine va_get (D := D) (ci := 3) (v := .ref r) (C := R_md) (T := F_md) (N := 1) hx hb hts i_md hown hK hP 0 rfl rfl 0 (by decide) (hts _ kf_md_12) (fun _ h9 => h9) rfl d_md_fill_22 ?_
    refine lv_iload_n hx hb d_md_fill_25 rfl (lv_at hl 1 rfl) ?_
    refine wa_ald (k := km) (b := a) hx hb hK hP 1 2 rfl rfl hkm (by decide) hft d_md_fill_26 ?_
    refine va_get (D := D) (ci := 2) (v := .int (nI R.length)) (C := R_pr) (T := F_pr) (N := 10) hx hb hts i_pr hown hK hP 2 rfl rfl 5 (by decide) (hts _ kf_md_50) (fun _ h9 => h9) rfl d_md_fill_27 ?_
    refine lv_sipush (v := 1000) hx hb d_md_fill_30 (by decide) ?_
    by_cases h5 : R.length ≤ 1000
    · refine lv_icmp_le (tgt := 38) hx hb d_md_fill_33 (by decide) (fun _ => ?_) (fun z9 => absurd (nI_le (a := R.length) (b := 1000) h5 (by decide)) z9)
      refine lv_iconst (v := 0) hx hb d_md_fill_38 (by decide) ?_
      refine lv_istore (lv' := [(5, .int 0), (0, .ref h), (1, .int (nI km)), (2, .int f0), (3, .int s0), (4, .int n0)]) hx hb d_md_fill_39 hl (by decide) rfl (fun ls hl => ?_)
      have hfo : fo n0 L = true := decide_eq_true ⟨by omega, by omega, by omega⟩
      have ep : fjr (decide (km = 2)) f0 s0 (j, L) 0 c0 = fpr (decide (km = 2)) f0 s0 n0 (j, L) := by unfold fpr; rw [show fo n0 (j, L).2 = true from hfo, h4]; rfl
      have hL : PL j L (qs, qk, qv, qb, qn, Z, K, V, P, N, fr, mm, fi, la, R) := ⟨Fr, Sp, hPA, hPN, hPS, hsF, eL⟩
      have loop : ∀ (cn i jc : Nat) (Lc : List (Int32 × Int32)) (uc : PB), i + cn = c0 → PL jc Lc uc → j ≤ jc → fjr (decide (km = 2)) f0 s0 (jc, Lc) i cn = fpr (decide (km = 2)) f0 s0 n0 (j, L) → Lc.length + cn ≤ 1400 → ∀ (H : Heap) (locs : List Loc), va_P D cls ([(h, .inr (3, [.ref r])), (r, .inl (cP, 3, .inr (.inr (.inr (.inr ft)))))] ++ (pw cI a jc uc)) H → va_D A ([(h, .inr (3, [.ref r])), (r, .inl (cP, 3, .inr (.inr (.inr (.inr ft)))))] ++ (pw cI a jc uc)) → va_S A s.heap H locs → ∀ ls : Array Slot, lv_has ls 6 [(0, .ref h), (1, .int (nI km)), (2, .int f0), (3, .int s0), (4, .int n0), (5, .int (nI i))] → W p l e (rmL 5 (mcR j (fpr (decide (km = 2)) f0 s0 n0 (j, L)).1) (msR j (fpr (decide (km = 2)) f0 s0 n0 (j, L)).1)) s m args below meth c H locs (mcR j jc) (msR j jc) Q (F0 m 41 ls []) := by
        clear hP hD hS hL hPA hPN hPS hsF eL hLl hn hpn hSl hin2 hnd
        intro cn
        induction cn with
        | zero =>
          intro i jc Lc uc hi hT hjc hst hlc H locs hP hD hS ls hl
          have e1 : jc = (fpr (decide (km = 2)) f0 s0 n0 (j, L)).1 := by rw [← hst]; rfl
          have e2 : Lc = (fpr (decide (km = 2)) f0 s0 n0 (j, L)).2 := by rw [← hst]; rfl
          subst e1
          subst e2
          refine lv_iload hx hb d_md_fill_41 (lv_at hl 5 rfl) ?_
          refine lv_iload hx hb d_md_fill_43 (lv_at hl 4 rfl) ?_
          refine lv_icmp_ge (tgt := 68) hx hb d_md_fill_45 (by decide) (fun _ => ?_) (fun z9 => absurd (by rw [h3]; exact nI_le (by omega) (by omega)) z9)
          obtain ⟨qs, qk, qv, qb, qn, Z, K, V, P, N, fr, mm, fi, la, R⟩ := uc
          obtain ⟨Fr, Sp, hPA, hPN, hPS, hsF, eL⟩ := hT
          have hPA : PA (2 ^ (4 + ((fpr (decide (km = 2)) f0 s0 n0 (j, L)).1))) ((fpr (decide (km = 2)) f0 s0 n0 (j, L)).1) mm R Fr := hPA
          have hPN : PN P N fi la R := hPN
          have hPS : PS K Z R Sp := hPS
          have hsF : sg N fr Fr (-1) := hsF
          have eL : ((fpr (decide (km = 2)) f0 s0 n0 (j, L)).2) = kv K V R := eL
          have hLl : ((fpr (decide (km = 2)) f0 s0 n0 (j, L)).2).length = R.length := by rw [eL]; exact List.length_map ..
          have hpn := pa_n hPA
          have hn : 2 ^ (4 + ((fpr (decide (km = 2)) f0 s0 n0 (j, L)).1)) < 2 ^ 31 := by omega
          have hSl : Sp.length = R.length := hPS.1.length_eq
          have hin2 : ∀ x, x ∈ Sp → x < 2 ^ (4 + ((fpr (decide (km = 2)) f0 s0 n0 (j, L)).1)) := fun x hx1 => (pa_in hPA (hPS.1.mem_iff.mp hx1)).2
          have hnd := ps_nd hPS
          have hP : va_P D cls ([(h, .inr (3, [.ref r])), (r, .inl (cP, 3, .inr (.inr (.inr (.inr ft)))))] ++ (px cI a qs qk qv qb qn (2 ^ (4 + (fpr (decide (km = 2)) f0 s0 n0 (j, L)).1)) Z K V P N (nI R.length) fr (nI mm) fi la)) H := hP
          have hD : va_D A ([(h, .inr (3, [.ref r])), (r, .inl (cP, 3, .inr (.inr (.inr (.inr ft)))))] ++ (px cI a qs qk qv qb qn (2 ^ (4 + (fpr (decide (km = 2)) f0 s0 n0 (j, L)).1)) Z K V P N (nI R.length) fr (nI mm) fi la)) := hD
          refine lv_aload_n hx hb d_md_fill_68 rfl (lv_at hl 0 rfl) ?_
          refine va_get (D := D) (ci := 3) (v := .ref r) (C := R_md) (T := F_md) (N := 1) hx hb hts i_md hown hK hP 0 rfl rfl 0 (by decide) (hts _ kf_md_12) (fun _ h9 => h9) rfl d_md_fill_69 ?_
          refine lv_iload_n hx hb d_md_fill_72 rfl (lv_at hl 1 rfl) ?_
          refine wa_ald (k := km) (b := a) hx hb hK hP 1 2 rfl rfl hkm (by decide) hft d_md_fill_73 ?_
          refine va_get (D := D) (ci := 2) (v := .int (nI R.length)) (C := R_pr) (T := F_pr) (N := 10) hx hb hts i_pr hown hK hP 2 rfl rfl 5 (by decide) (hts _ kf_md_50) (fun _ h9 => h9) rfl d_md_fill_74 ?_
          exact cg_iret (u := (qs, qk, qv, qb, qn, Z, K, V, P, N, fr, mm, fi, la, R)) hQ hx hb hr hlk hK hP hD hS (⟨by unfold far; rw [show fo n0 (j, L).2 = true from hfo, ← hLl]; rfl, ⟨Fr, Sp, hPA, hPN, hPS, hsF, eL⟩⟩) d_md_fill_77
        | succ cn ih =>
          intro i jc Lc uc hi hT hjc hst hlc H locs hP hD hS ls hl
          have hstep : fjr (decide (km = 2)) f0 s0 (njrs jc (f0 + (nI i * s0)) Lc, st (decide (km = 2)) (f0 + (nI i * s0)) (nI i) Lc) (i + 1) cn = fpr (decide (km = 2)) f0 s0 n0 (j, L) := hst
          have hj1 := njrs_le jc (f0 + (nI i * s0)) Lc
          have hj2 : njrs jc (f0 + (nI i * s0)) Lc ≤ (fpr (decide (km = 2)) f0 s0 n0 (j, L)).1 := by rw [← hstep]; exact fjr_le (njrs jc (f0 + (nI i * s0)) Lc, st (decide (km = 2)) (f0 + (nI i * s0)) (nI i) Lc) (i + 1)
          have hsl := st_len (mv := (decide (km = 2))) (k := (f0 + (nI i * s0))) (v := nI i) (L := Lc)
          refine lv_iload hx hb d_md_fill_41 (lv_at hl 5 rfl) ?_
          refine lv_iload hx hb d_md_fill_43 (lv_at hl 4 rfl) ?_
          refine lv_icmp_ge (tgt := 68) hx hb d_md_fill_45 (by decide) (fun z9 => absurd z9 (by rw [h3]; exact nI_ge (by omega) (by omega))) (fun _ => ?_)
          refine lv_aload_n hx hb d_md_fill_48 rfl (lv_at hl 0 rfl) ?_
          refine lv_iload_n hx hb d_md_fill_49 rfl (lv_at hl 1 rfl) ?_
          refine lv_iload_n hx hb d_md_fill_50 rfl (lv_at hl 2 rfl) ?_
          refine lv_iload hx hb d_md_fill_51 (lv_at hl 5 rfl) ?_
          refine lv_iload_n hx hb d_md_fill_53 rfl (lv_at hl 3 rfl) ?_
          refine lv_imul hx hb d_md_fill_54 ?_
          refine lv_iadd hx hb d_md_fill_55 ?_
          refine lv_iload hx hb d_md_fill_56 (lv_at hl 5 rfl) ?_
          refine cg_V (hn := 3) (As := [.int (nI km), .int (f0 + ((nI i) * s0)), .int (nI i)]) (rest := []) (wr := []) (q0 := 0) (ci := 3) hx hb hml hown hts (c_md_put l D cI cT cP h r ft km hkm a hft jc Lc uc hT (f0 + (nI i * s0)) (nI i) (by omega)) km_md_66 ki_md_put ks_md_put kn_md kc_md_put (by decide +kernel) rfl ⟨Nat.le_of_ble_eq_true rfl, Nat.le_of_ble_eq_true rfl⟩ hK hP hD hS hA [0, 1, 2, 3, 4, 5, 6, 7] [] rfl (by decide) rfl (by decide) (by decide) rfl rfl hl.1 rfl (Nat.le_of_ble_eq_true rfl) d_md_fill_58 ⟨by show _ ≤ mcR j (fpr (decide (km = 2)) f0 s0 n0 (j, L)).1; rw [mcR_add hjc hj1]; exact mcR_le hj2, by show _ ≤ msR j (fpr (decide (km = 2)) f0 s0 n0 (j, L)).1; rw [msR_add hjc hj1]; exact msR_le hj2⟩ (fun v u H locs hpost hP hD hS => ?_)
          obtain ⟨e9, hT3⟩ := hpost
          subst e9
          refine W.eq (g2 := F0 m 61 ls [.long (an (lk (f0 + (nI i * s0)) Lc))]) rfl ?_
          have hP : va_P D cls ([(h, .inr (3, [.ref r])), (r, .inl (cP, 3, .inr (.inr (.inr (.inr ft)))))] ++ (pw cI a (njrs jc (f0 + (nI i * s0)) Lc) u)) H := hP
          have hD : va_D A ([(h, .inr (3, [.ref r])), (r, .inl (cP, 3, .inr (.inr (.inr (.inr ft)))))] ++ (pw cI a (njrs jc (f0 + (nI i * s0)) Lc) u)) := hD
          refine W.widen (k := mcR j (njrs jc (f0 + (nI i * s0)) Lc)) (n := msR j (njrs jc (f0 + (nI i * s0)) Lc)) (Nat.le_of_eq (mcR_add hjc hj1)) (Nat.le_of_eq (msR_add hjc hj1)) ?_
          refine lv_pop2_2 hx hb d_md_fill_61 rfl ?_
          refine lv_iinc (v := nI (i + 1)) (lv' := [(5, .int (nI (i + 1))), (0, .ref h), (1, .int (nI km)), (2, .int f0), (3, .int s0), (4, .int n0)]) hx hb d_md_fill_62 hl (k := 5) rfl (inc_n i) (by decide) rfl (fun ls hl => ?_)
          refine lv_goto (tgt := 41) hx hb d_md_fill_65 (by decide) ?_
          exact ih (i + 1) _ _ u (by omega) hT3 (Nat.le_trans hjc hj1) hstep (by omega) _ _ hP hD hS ls (lv_sub hl [1, 2, 3, 4, 5, 0] rfl)
      refine W.widen (k := mcR j j) (n := msR j j) (Nat.zero_le _) (Nat.zero_le _) ?_
      exact loop c0 0 j L (qs, qk, qv, qb, qn, Z, K, V, P, N, fr, mm, fi, la, R) (by omega) hL (Nat.le_refl _) ep (by omega) _ _ hP hD hS ls (lv_sub hl [1, 2, 3, 4, 5, 0] rfl)
    · refine lv_icmp_le (tgt := 38) hx hb d_md_fill_33 (by decide) (fun z9 => absurd z9 (fun z9 => h5 ((nI_leI (a := R.length) (b := 1000) (by omega) (by decide)).mp z9))) (fun _ => ?_)
      have hfo : fo n0 L = false := decide_eq_false (fun z9 => by omega)
      have ep : fpr (decide (km = 2)) f0 s0 n0 (j, L) = (j, L) := by unfold fpr; rw [hfo]; rfl
      refine lv_iconst (v := (-1)) hx hb d_md_fill_36 (by decide) ?_
      refine W.widen (k := mcR j (fpr (decide (km = 2)) f0 s0 n0 (j, L)).1) (n := msR j (fpr (decide (km = 2)) f0 s0 n0 (j, L)).1) (Nat.zero_le _) (Nat.zero_le _) ?_
      have hP : va_P D cls ([(h, .inr (3, [.ref r])), (r, .inl (cP, 3, .inr (.inr (.inr (.inr ft)))))] ++ (pw cI a (fpr (decide (km = 2)) f0 s0 n0 (j, L)).1 (qs, qk, qv, qb, qn, Z, K, V, P, N, fr, mm, fi, la, R))) H := by rw [ep]; exact hP
      have hD : va_D A ([(h, .inr (3, [.ref r])), (r, .inl (cP, 3, .inr (.inr (.inr (.inr ft)))))] ++ (pw cI a (fpr (decide (km = 2)) f0 s0 n0 (j, L)).1 (qs, qk, qv, qb, qn, Z, K, V, P, N, fr, mm, fi, la, R))) := by rw [ep]; exact hD
      exact cg_iret (u := (qs, qk, qv, qb, qn, Z, K, V, P, N, fr, mm, fi, la, R)) hQ hx hb hr hlk hK hP hD hS (⟨by unfold far; rw [show fo n0 (j, L).2 = false from hfo]; rfl, by rw [ep]; exact ⟨Fr, Sp, hPA, hPN, hPS, hsF, eL⟩⟩) d_md_fill_37
set_option maxRecDepth 100000 in
set_option maxHeartbeats 4000000 in
theorem c_md_fill_x (l : Launch) (D : va_G) (cI cT cP : ClassId) (h r : Nat) (q : Int32) (hq : bad q) (f0 s0 n0 : Int32) : Cg l y_md_fill b_md_fill 6 (some .int) 5 0 0 D (ty3 cI cT cP) [.ref h, .int q, .int f0, .int s0, .int n0] ([(h, .inr (3, [.ref r]))]) (fun (v : Option Value) (u : Unit) => v = some (.int (-1))) (fun u => [(h, .inr (3, [.ref r]))]) := by
  refine cg_enter rfl (Nat.le_of_ble_eq_true rfl) ?_
  intro p e s m below meth c args hx hb hr hlk hml hown hin hts A hA hK hP hD hS ls hl Q hQ
  have hl : lv_has ls 6 [(0, .ref h), (1, .int q), (2, .int f0), (3, .int s0), (4, .int n0)] := hl
  have hP : va_P D cls ([(h, .inr (3, [.ref r]))]) s.heap := hP
  have hD : va_D A ([(h, .inr (3, [.ref r]))]) := hD
  refine lv_iload_n hx hb d_md_fill_0 rfl (lv_at hl 1 rfl) ?_
  refine cg_S (hn := 1) (As := [.int q]) (rest := []) (wr := [(h, .inr (3, [.ref r]))]) hx hb hml hown hts (c_md_isMap_x l D cI cT cP q hq) km_md_20 kt_md_isMap kn_md kc_md_isMap (by decide +kernel) rfl ⟨Nat.le_of_ble_eq_true rfl, Nat.le_of_ble_eq_true rfl⟩ hK hP hD hS hA [] [0] rfl (by decide) rfl (by decide) (by decide) hl.1 rfl (Nat.le_of_ble_eq_true rfl) d_md_fill_1 ⟨Nat.zero_le _, Nat.zero_le _⟩ (fun v u H locs hpost hP hD hS => ?_)
  subst hpost
  refine W.eq (g2 := F0 m 4 ls [.int 0]) rfl ?_
  have hP : va_P D cls ([(h, .inr (3, [.ref r]))]) H := hP
  have hD : va_D A ([(h, .inr (3, [.ref r]))]) := hD
  refine lv_if_eq (tgt := 36) hx hb d_md_fill_4 (by decide) (fun _ => ?_) (fun z9 => absurd rfl z9)
  refine lv_iconst (v := (-1)) hx hb d_md_fill_36 (by decide) ?_
  exact cg_iret (u := ()) hQ hx hb hr hlk hK hP hD hS rfl d_md_fill_37
set_option maxRecDepth 100000 in
set_option maxHeartbeats 4000000 in
/-- same, two maps -/
theorem c_md_same (l : Launch) (D : va_G) (cI cT cP : ClassId) (h r : Nat) (ft : Nat → Option Nat) (k1 : Nat) (hk1 : k1 < 3) (a : Nat) (hf1 : ft k1 = some a) (k2 : Nat) (hk2 : k2 < 3) (a2 : Nat) (hf2 : ft k2 = some a2) (j : Nat) (L : List (Int32 × Int32)) (u0 : PB) (hL : PL j L u0) (j2 : Nat) (L2 : List (Int32 × Int32)) (u2 : PB) (hL2 : PL j2 L2 u2) : Cg l y_md_same b_md_same 6 (some .boolean) 1 0 0 D (ty3 cI cT cP) [.ref h, .int (nI k1), .int (nI k2)] ([(h, .inr (3, [.ref r])), (r, .inl (cP, 3, .inr (.inr (.inr (.inr ft)))))] ++ (pw cI a j u0) ++ (pw cI a2 j2 u2)) (fun (v : Option Value) (u : Unit) => v = some (.int (zI (mt L L2)))) (fun u => [(h, .inr (3, [.ref r])), (r, .inl (cP, 3, .inr (.inr (.inr (.inr ft)))))] ++ (pw cI a j u0) ++ (pw cI a2 j2 u2)) := by
  obtain ⟨qs, qk, qv, qb, qn, Z, K, V, P, N, fr, mm, fi, la, R⟩ := u0
  obtain ⟨Fr, Sp, hPA, hPN, hPS, hsF, eL⟩ := hL
  have hPA : PA (2 ^ (4 + j)) j mm R Fr := hPA
  have hPN : PN P N fi la R := hPN
  have hPS : PS K Z R Sp := hPS
  have hsF : sg N fr Fr (-1) := hsF
  have eL : L = kv K V R := eL
  have hLl : L.length = R.length := by rw [eL]; exact List.length_map ..
  have hpn := pa_n hPA
  have hn : 2 ^ (4 + j) < 2 ^ 31 := by omega
  have hSl : Sp.length = R.length := hPS.1.length_eq
  have hin2 : ∀ x, x ∈ Sp → x < 2 ^ (4 + j) := fun x hx1 => (pa_in hPA (hPS.1.mem_iff.mp hx1)).2
  have hnd := ps_nd hPS
  obtain ⟨qs2, qk2, qv2, qb2, qn2, Z2, K2, V2, P2, N2, fr2, mm2, fi2, la2, R2⟩ := u2
  obtain ⟨Fr2, Sp2, hPA2, hPN2, hPS2, hsF2, eL2⟩ := hL2
  have hPA2 : PA (2 ^ (4 + j2)) j2 mm2 R2 Fr2 := hPA2
  have hPN2 : PN P2 N2 fi2 la2 R2 := hPN2
  have hPS2 : PS K2 Z2 R2 Sp2 := hPS2
  have hsF2 : sg N2 fr2 Fr2 (-1) := hsF2
  have eL2 : L2 = kv K2 V2 R2 := eL2
  have hLl2 : L2.length = R2.length := by rw [eL2]; exact List.length_map ..
  have hpn2 := pa_n hPA2
  have hn2 : 2 ^ (4 + j2) < 2 ^ 31 := by omega
  have hSl2 : Sp2.length = R2.length := hPS2.1.length_eq
  have hin22 : ∀ x, x ∈ Sp2 → x < 2 ^ (4 + j2) := fun x hx1 => (pa_in hPA2 (hPS2.1.mem_iff.mp hx1)).2
  have hnd2 := ps_nd hPS2
  have hmi := mt_iff (V := V) (V2 := V2) hPS hPS2
  rw [← eL, ← eL2] at hmi
  refine cg_enter rfl (Nat.le_of_ble_eq_true rfl) ?_
  intro p e s m below meth c args hx hb hr hlk hml hown hin hts A hA hK hP hD hS ls hl Q hQ
  have hl : lv_has ls 6 [(0, .ref h), (1, .int (nI k1)), (2, .int (nI k2))] := hl
  have hP : va_P D cls ([(h, .inr (3, [.ref r])), (r, .inl (cP, 3, .inr (.inr (.inr (.inr ft)))))] ++ (px cI a qs qk qv qb qn (2 ^ (4 + j)) Z K V P N (nI R.length) fr (nI mm) fi la) ++ (px cI a2 qs2 qk2 qv2 qb2 qn2 (2 ^ (4 + j2)) Z2 K2 V2 P2 N2 (nI R2.length) fr2 (nI mm2) fi2 la2)) s.heap := hP
  have hD : va_D A ([(h, .inr (3, [.ref r])), (r, .inl (cP, 3, .inr (.inr (.inr (.inr ft)))))] ++ (px cI a qs qk qv qb qn (2 ^ (4 + j)) Z K V P N (nI R.length) fr (nI mm) fi la) ++ (px cI a2 qs2 qk2 qv2 qb2 qn2 (2 ^ (4 + j2)) Z2 K2 V2 P2 N2 (nI R2.length) fr2 (nI mm2) fi2 la2)) := hD
  refine lv_iload_n hx hb d_md_same_0 rfl (lv_at hl 1 rfl) ?_
  refine cg_S (hn := 1) (As := [.int (nI k1)]) (rest := []) (wr := [(h, .inr (3, [.ref r])), (r, .inl (cP, 3, .inr (.inr (.inr (.inr ft)))))] ++ (px cI a qs qk qv qb qn (2 ^ (4 + j)) Z K V P N (nI R.length) fr (nI mm) fi la) ++ (px cI a2 qs2 qk2 qv2 qb2 qn2 (2 ^ (4 + j2)) Z2 K2 V2 P2 N2 (nI R2.length) fr2 (nI mm2) fi2 la2)) hx hb hml hown hts (c_md_isMap l D cI cT cP k1 hk1) km_md_20 kt_md_isMap kn_md kc_md_isMap (by decide +kernel) rfl ⟨Nat.le_of_ble_eq_true rfl, Nat.le_of_ble_eq_true rfl⟩ hK hP hD hS hA [] [0, 1, 2, 3, 4, 5, 6, 7, 8, 9, 10, 11, 12, 13] rfl (by decide) rfl (by decide) (by decide) hl.1 rfl (Nat.le_of_ble_eq_true rfl) d_md_same_1 ⟨Nat.zero_le _, Nat.zero_le _⟩ (fun v u H locs hpost hP hD hS => ?_)
  subst hpost
  refine W.eq (g2 := F0 m 4 ls [.int 1]) rfl ?_
  have hP : va_P D cls ([(h, .inr (3, [.ref r])), (r, .inl (cP, 3, .inr (.inr (.inr (.inr ft)))))] ++ (px cI a qs qk qv qb qn (2 ^ (4 + j)) Z K V P N (nI R.length) fr (nI mm) fi la) ++ (px cI a2 qs2 qk2 qv2 qb2 qn2 (2 ^ (4 + j2)) Z2 K2 V2 P2 N2 (nI R2.length) fr2 (nI mm2) fi2 la2)) H := hP
  have hD : va_D A ([(h, .inr (3, [.ref r])), (r, .inl (cP, 3, .inr (.inr (.inr (.inr ft)))))] ++ (px cI a qs qk qv qb qn (2 ^ (4 + j)) Z K V P N (nI R.length) fr (nI mm) fi la) ++ (px cI a2 qs2 qk2 qv2 qb2 qn2 (2 ^ (4 + j2)) Z2 K2 V2 P2 N2 (nI R2.length) fr2 (nI mm2) fi2 la2)) := hD
  refine lv_if_eq (tgt := 35) hx hb d_md_same_4 (by decide) (fun z9 => absurd z9 (by decide)) (fun _ => ?_)
  refine lv_iload_n hx hb d_md_same_7 rfl (lv_at hl 2 rfl) ?_
  refine cg_S (hn := 1) (As := [.int (nI k2)]) (rest := []) (wr := [(h, .inr (3, [.ref r])), (r, .inl (cP, 3, .inr (.inr (.inr (.inr ft)))))] ++ (px cI a qs qk qv qb qn (2 ^ (4 + j)) Z K V P N (nI R.length) fr (nI mm) fi la) ++ (px cI a2 qs2 qk2 qv2 qb2 qn2 (2 ^ (4 + j2)) Z2 K2 V2 P2 N2 (nI R2.length) fr2 (nI mm2) fi2 la2)) hx hb hml hown hts (c_md_isMap l D cI cT cP k2 hk2) km_md_20 kt_md_isMap kn_md kc_md_isMap (by decide +kernel) rfl ⟨Nat.le_of_ble_eq_true rfl, Nat.le_of_ble_eq_true rfl⟩ hK hP hD hS hA [] [0, 1, 2, 3, 4, 5, 6, 7, 8, 9, 10, 11, 12, 13] rfl (by decide) rfl (by decide) (by decide) hl.1 rfl (Nat.le_of_ble_eq_true rfl) d_md_same_8 ⟨Nat.zero_le _, Nat.zero_le _⟩ (fun v u H locs hpost hP hD hS => ?_)
  subst hpost
  refine W.eq (g2 := F0 m 11 ls [.int 1]) rfl ?_
  have hP : va_P D cls ([(h, .inr (3, [.ref r])), (r, .inl (cP, 3, .inr (.inr (.inr (.inr ft)))))] ++ (px cI a qs qk qv qb qn (2 ^ (4 + j)) Z K V P N (nI R.length) fr (nI mm) fi la) ++ (px cI a2 qs2 qk2 qv2 qb2 qn2 (2 ^ (4 + j2)) Z2 K2 V2 P2 N2 (nI R2.length) fr2 (nI mm2) fi2 la2)) H := hP
  have hD : va_D A ([(h, .inr (3, [.ref r])), (r, .inl (cP, 3, .inr (.inr (.inr (.inr ft)))))] ++ (px cI a qs qk qv qb qn (2 ^ (4 + j)) Z K V P N (nI R.length) fr (nI mm) fi la) ++ (px cI a2 qs2 qk2 qv2 qb2 qn2 (2 ^ (4 + j2)) Z2 K2 V2 P2 N2 (nI R2.length) fr2 (nI mm2) fi2 la2)) := hD
  refine lv_if_eq (tgt := 35) hx hb d_md_same_11 (by decide) (fun z9 => absurd z9 (by decide)) (fun _ => ?_)
  refine lv_aload_n hx hb d_md_same_14 rfl (lv_at hl 0 rfl) ?_
  refine va_get (D := D) (ci := 3) (v := .ref r) (C := R_md) (T := F_md) (N := 1) hx hb hts i_md hown hK hP 0 rfl rfl 0 (by decide) (hts _ kf_md_12) (fun _ h9 => h9) rfl d_md_same_15 ?_
  refine lv_iload_n hx hb d_md_same_18 rfl (lv_at hl 1 rfl) ?_
  refine wa_ald (k := k1) (b := a) hx hb hK hP 1 2 rfl rfl hk1 (by decide) hf1 d_md_same_19 ?_
  refine va_get (D := D) (ci := 2) (v := .int (nI R.length)) (C := R_pr) (T := F_pr) (N := 10) hx hb hts i_pr hown hK hP 2 rfl rfl 5 (by decide) (hts _ kf_md_50) (fun _ h9 => h9) rfl d_md_same_20 ?_
  refine lv_aload_n hx hb d_md_same_23 rfl (lv_at hl 0 rfl) ?_
  refine va_get (D := D) (ci := 3) (v := .ref r) (C := R_md) (T := F_md) (N := 1) hx hb hts i_md hown hK hP 0 rfl rfl 0 (by decide) (hts _ kf_md_12) (fun _ h9 => h9) rfl d_md_same_24 ?_
  refine lv_iload_n hx hb d_md_same_27 rfl (lv_at hl 2 rfl) ?_
  refine wa_ald (k := k2) (b := a2) hx hb hK hP 1 2 rfl rfl hk2 (by decide) hf2 d_md_same_28 ?_
  refine va_get (D := D) (ci := 2) (v := .int (nI R2.length)) (C := R_pr) (T := F_pr) (N := 10) hx hb hts i_pr hown hK hP 8 rfl rfl 5 (by decide) (hts _ kf_md_50) (fun _ h9 => h9) rfl d_md_same_29 ?_
  by_cases hle : R.length = R2.length
  · refine lv_icmp_eq (tgt := 37) hx hb d_md_same_32 (by decide) (fun _ => ?_) (fun z9 => absurd (by rw [hle]) z9)
    refine lv_iconst (v := 0) hx hb d_md_same_37 (by decide) ?_
    refine lv_istore_n (lv' := [(3, .int 0), (0, .ref h), (1, .int (nI k1)), (2, .int (nI k2))]) hx hb d_md_same_38 rfl hl (by decide) rfl (fun ls hl => ?_)
    have loop : ∀ (l2 l1 m1 m2 : List Nat), Sp = l1 ++ l2 → Sp2 = m1 ++ m2 → l1.length = m1.length → kv K V l1 = kv K2 V2 m1 → ∀ ls : Array Slot, lv_has ls 6 [(0, .ref h), (1, .int (nI k1)), (2, .int (nI k2)), (3, .int (nI l1.length))] → W p l e (rmL 1 0 0) s m args below meth c H locs 0 0 Q (F0 m 39 ls []) := by
      intro l2
      induction l2 with
      | nil =>
        intro l1 m1 m2 eS eS2 hlm hkv ls hl
        have hl1 : l1 = Sp := by rw [eS, List.append_nil]
        have hm2 : m2 = [] := List.eq_nil_of_length_eq_zero (by
          have h9 := congrArg List.length eS2
          rw [List.length_append] at h9
          have h8 := congrArg List.length hl1
          omega)
        have hm1 : m1 = Sp2 := by rw [eS2, hm2, List.append_nil]
        refine lv_iload_n hx hb d_md_same_39 rfl (lv_at hl 3 rfl) ?_
        refine lv_aload_n hx hb d_md_same_40 rfl (lv_at hl 0 rfl) ?_
        refine va_get (D := D) (ci := 3) (v := .ref r) (C := R_md) (T := F_md) (N := 1) hx hb hts i_md hown hK hP 0 rfl rfl 0 (by decide) (hts _ kf_md_12) (fun _ h9 => h9) rfl d_md_same_41 ?_
        refine lv_iload_n hx hb d_md_same_44 rfl (lv_at hl 1 rfl) ?_
        refine wa_ald (k := k1) (b := a) hx hb hK hP 1 2 rfl rfl hk1 (by decide) hf1 d_md_same_45 ?_
        refine va_get (D := D) (ci := 2) (v := .int (nI R.length)) (C := R_pr) (T := F_pr) (N := 10) hx hb hts i_pr hown hK hP 2 rfl rfl 5 (by decide) (hts _ kf_md_50) (fun _ h9 => h9) rfl d_md_same_46 ?_
        refine lv_icmp_ge (tgt := 140) hx hb d_md_same_49 (by decide) (fun _ => ?_) (fun z9 => absurd (by rw [hl1, hSl]; exact nI_le (Nat.le_refl _) (by omega)) z9)
        refine lv_iconst (v := 1) hx hb d_md_same_140 (by decide) ?_
        exact cg_zret (u := ()) hQ hx hb hr hlk hK hP hD hS rfl (by rw [hmi.mpr (by rw [← hl1, ← hm1]; exact hkv)]; rfl) d_md_same_141
      | cons x l2 ih =>
        intro l1 m1 m2 eS eS2 hlm hkv ls hl
        have hxS : x ∈ Sp := by rw [eS]; exact List.mem_append_right _ (List.mem_cons_self ..)
        have hxR := hPS.1.mem_iff.mp hxS
        have hxn := pa_in hPA hxR
        have hlt : l1.length < R.length := by rw [← hSl, eS, List.length_append, List.length_cons]; omega
        have sZ : Z l1.length = nI x := by
          rw [hPS.2.2 _ (by omega), eS, getD_hd]
          rfl
        cases m2 with
        | nil =>
          have h9 := congrArg List.length eS2
          rw [List.append_nil] at h9
          exact absurd hlt (by omega)
        | cons y m2 =>
          have hyS : y ∈ Sp2 := by rw [eS2]; exact List.mem_append_right _ (List.mem_cons_self ..)
          have hyn := pa_in hPA2 (hPS2.1.mem_iff.mp hyS)
          have sY : Z2 l1.length = nI y := by
            rw [hPS2.2.2 _ (by omega), hlm, eS2, getD_hd]
            rfl
          have hcut : kv K V Sp = kv K2 V2 Sp2 → K x = K2 y ∧ V x = V2 y := fun h9 => by
            rw [eS, eS2] at h9
            have h8 : kv K V l1 ++ (K x, V x) :: kv K V l2 = kv K2 V2 m1 ++ (K2 y, V2 y) :: kv K2 V2 m2 := by simpa [kv] using h9
            have h7 := (List.append_inj h8 (by simp [kv, hlm])).2
            have h6 := (List.cons.inj h7).1
            exact ⟨congrArg Prod.fst h6, congrArg Prod.snd h6⟩
          refine lv_iload_n hx hb d_md_same_39 rfl (lv_at hl 3 rfl) ?_
          refine lv_aload_n hx hb d_md_same_40 rfl (lv_at hl 0 rfl) ?_
          refine va_get (D := D) (ci := 3) (v := .ref r) (C := R_md) (T := F_md) (N := 1) hx hb hts i_md hown hK hP 0 rfl rfl 0 (by decide) (hts _ kf_md_12) (fun _ h9 => h9) rfl d_md_same_41 ?_
          refine lv_iload_n hx hb d_md_same_44 rfl (lv_at hl 1 rfl) ?_
          refine wa_ald (k := k1) (b := a) hx hb hK hP 1 2 rfl rfl hk1 (by decide) hf1 d_md_same_45 ?_
          refine va_get (D := D) (ci := 2) (v := .int (nI R.length)) (C := R_pr) (T := F_pr) (N := 10) hx hb hts i_pr hown hK hP 2 rfl rfl 5 (by decide) (hts _ kf_md_50) (fun _ h9 => h9) rfl d_md_same_46 ?_
          refine lv_icmp_ge (tgt := 140) hx hb d_md_same_49 (by decide) (fun z9 => absurd z9 (nI_ge hlt (by omega))) (fun _ => ?_)
          refine lv_aload_n hx hb d_md_same_52 rfl (lv_at hl 0 rfl) ?_
          refine va_get (D := D) (ci := 3) (v := .ref r) (C := R_md) (T := F_md) (N := 1) hx hb hts i_md hown hK hP 0 rfl rfl 0 (by decide) (hts _ kf_md_12) (fun _ h9 => h9) rfl d_md_same_53 ?_
          refine lv_iload_n hx hb d_md_same_56 rfl (lv_at hl 1 rfl) ?_
          refine wa_ald (k := k1) (b := a) hx hb hK hP 1 2 rfl rfl hk1 (by decide) hf1 d_md_same_57 ?_
          refine va_get (D := D) (ci := 2) (v := .ref qs) (C := R_pr) (T := F_pr) (N := 10) hx hb hts i_pr hown hK hP 2 rfl rfl 0 (by decide) (hts _ kf_md_54) (fun _ h9 => h9) rfl d_md_same_58 ?_
          refine lv_iload_n hx hb d_md_same_61 rfl (lv_at hl 3 rfl) ?_
          refine wa_ld (k := l1.length) hx hb hK hP 3 0 rfl rfl (by omega) hn d_md_same_62 ?_
          refine tp_i (y := nI x) sZ ?_
          refine lv_istore (lv' := [(4, .int (nI x)), (0, .ref h), (1, .int (nI k1)), (2, .int (nI k2)), (3, .int (nI l1.length))]) hx hb d_md_same_63 hl (by decide) rfl (fun ls hl => ?_)
          refine lv_aload_n hx hb d_md_same_65 rfl (lv_at hl 1 rfl) ?_
          refine va_get (D := D) (ci := 3) (v := .ref r) (C := R_md) (T := F_md) (N := 1) hx hb hts i_md hown hK hP 0 rfl rfl 0 (by decide) (hts _ kf_md_12) (fun _ h9 => h9) rfl d_md_same_66 ?_
          refine lv_iload_n hx hb d_md_same_69 rfl (lv_at hl 3 rfl) ?_
          refine wa_ald (k := k2) (b := a2) hx hb hK hP 1 2 rfl rfl hk2 (by decide) hf2 d_md_same_70 ?_
          refine va_get (D := D) (ci := 2) (v := .ref qs2) (C := R_pr) (T := F_pr) (N := 10) hx hb hts i_pr hown hK hP 8 rfl rfl 0 (by decide) (hts _ kf_md_54) (fun _ h9 => h9) rfl d_md_same_71 ?_
          refine lv_iload_n hx hb d_md_same_74 rfl (lv_at hl 4 rfl) ?_
          refine wa_ld (k := l1.length) hx hb hK hP 9 0 rfl rfl (by omega) hn2 d_md_same_75 ?_
          refine tp_i (y := nI y) sY ?_
          refine lv_istore (lv' := [(5, .int (nI y)), (4, .int (nI x)), (0, .ref h), (1, .int (nI k1)), (2, .int (nI k2)), (3, .int (nI l1.length))]) hx hb d_md_same_76 hl (by decide) rfl (fun ls hl => ?_)
          refine lv_aload_n hx hb d_md_same_78 rfl (lv_at hl 2 rfl) ?_
          refine va_get (D := D) (ci := 3) (v := .ref r) (C := R_md) (T := F_md) (N := 1) hx hb hts i_md hown hK hP 0 rfl rfl 0 (by decide) (hts _ kf_md_12) (fun _ h9 => h9) rfl d_md_same_79 ?_
          refine lv_iload_n hx hb d_md_same_82 rfl (lv_at hl 3 rfl) ?_
          refine wa_ald (k := k1) (b := a) hx hb hK hP 1 2 rfl rfl hk1 (by decide) hf1 d_md_same_83 ?_
          refine va_get (D := D) (ci := 2) (v := .ref qk) (C := R_pr) (T := F_pr) (N := 10) hx hb hts i_pr hown hK hP 2 rfl rfl 1 (by decide) (hts _ kf_md_60) (fun _ h9 => h9) rfl d_md_same_84 ?_
          refine lv_iload hx hb d_md_same_87 (lv_at hl 1 rfl) ?_
          refine wa_ld (k := x) hx hb hK hP 4 0 rfl rfl hxn.2 hn d_md_same_89 ?_
          refine lv_aload_n hx hb d_md_same_90 rfl (lv_at hl 2 rfl) ?_
          refine va_get (D := D) (ci := 3) (v := .ref r) (C := R_md) (T := F_md) (N := 1) hx hb hts i_md hown hK hP 0 rfl rfl 0 (by decide) (hts _ kf_md_12) (fun _ h9 => h9) rfl d_md_same_91 ?_
          refine lv_iload_n hx hb d_md_same_94 rfl (lv_at hl 4 rfl) ?_
          refine wa_ald (k := k2) (b := a2) hx hb hK hP 1 2 rfl rfl hk2 (by decide) hf2 d_md_same_95 ?_
          refine va_get (D := D) (ci := 2) (v := .ref qk2) (C := R_pr) (T := F_pr) (N := 10) hx hb hts i_pr hown hK hP 8 rfl rfl 1 (by decide) (hts _ kf_md_60) (fun _ h9 => h9) rfl d_md_same_96 ?_
          refine lv_iload hx hb d_md_same_99 (lv_at hl 0 rfl) ?_
          refine wa_ld (k := y) hx hb hK hP 10 0 rfl rfl hyn.2 hn2 d_md_same_101 ?_
          refine lv_icmp_ne (tgt := 132) hx hb d_md_same_102 (by decide) (fun c1 => ?_) (fun c1 => ?_)
          · refine lv_iconst (v := 0) hx hb d_md_same_132 (by decide) ?_
            exact cg_zret (u := ()) hQ hx hb hr hlk hK hP hD hS rfl (by rw [show mt L L2 = false from Bool.eq_false_iff.mpr (fun z9 => c1 (hcut (hmi.mp z9)).1)]; rfl) d_md_same_133
          · refine lv_aload_n hx hb d_md_same_105 rfl (lv_at hl 2 rfl) ?_
            refine va_get (D := D) (ci := 3) (v := .ref r) (C := R_md) (T := F_md) (N := 1) hx hb hts i_md hown hK hP 0 rfl rfl 0 (by decide) (hts _ kf_md_12) (fun _ h9 => h9) rfl d_md_same_106 ?_
            refine lv_iload_n hx hb d_md_same_109 rfl (lv_at hl 3 rfl) ?_
            refine wa_ald (k := k1) (b := a) hx hb hK hP 1 2 rfl rfl hk1 (by decide) hf1 d_md_same_110 ?_
            refine va_get (D := D) (ci := 2) (v := .ref qv) (C := R_pr) (T := F_pr) (N := 10) hx hb hts i_pr hown hK hP 2 rfl rfl 2 (by decide) (hts _ kf_md_36) (fun _ h9 => h9) rfl d_md_same_111 ?_
            refine lv_iload hx hb d_md_same_114 (lv_at hl 1 rfl) ?_
            refine wa_ld (k := x) hx hb hK hP 5 0 rfl rfl hxn.2 hn d_md_same_116 ?_
            refine lv_aload_n hx hb d_md_same_117 rfl (lv_at hl 2 rfl) ?_
            refine va_get (D := D) (ci := 3) (v := .ref r) (C := R_md) (T := F_md) (N := 1) hx hb hts i_md hown hK hP 0 rfl rfl 0 (by decide) (hts _ kf_md_12) (fun _ h9 => h9) rfl d_md_same_118 ?_
            refine lv_iload_n hx hb d_md_same_121 rfl (lv_at hl 4 rfl) ?_
            refine wa_ald (k := k2) (b := a2) hx hb hK hP 1 2 rfl rfl hk2 (by decide) hf2 d_md_same_122 ?_
            refine va_get (D := D) (ci := 2) (v := .ref qv2) (C := R_pr) (T := F_pr) (N := 10) hx hb hts i_pr hown hK hP 8 rfl rfl 2 (by decide) (hts _ kf_md_36) (fun _ h9 => h9) rfl d_md_same_123 ?_
            refine lv_iload hx hb d_md_same_126 (lv_at hl 0 rfl) ?_
            refine wa_ld (k := y) hx hb hK hP 11 0 rfl rfl hyn.2 hn2 d_md_same_128 ?_
            refine lv_icmp_eq (tgt := 134) hx hb d_md_same_129 (by decide) (fun c2 => ?_) (fun c2 => ?_)
            · refine lv_iinc (v := nI (l1 ++ [x]).length) (lv' := [(3, .int (nI (l1 ++ [x]).length)), (5, .int (nI y)), (4, .int (nI x)), (0, .ref h), (1, .int (nI k1)), (2, .int (nI k2))]) hx hb d_md_same_134 hl (k := 5) rfl (inc_l l1 x) (by decide) rfl (fun ls hl => ?_)
              refine lv_goto (tgt := 39) hx hb d_md_same_137 (by decide) ?_
              exact ih (l1 ++ [x]) (m1 ++ [y]) m2 (by rw [eS]; simp) (by rw [eS2]; simp) (by simp [hlm]) (by
                  show List.map _ (l1 ++ [x]) = List.map _ (m1 ++ [y])
                  rw [List.map_append, List.map_append]
                  show kv K V l1 ++ [(K x, V x)] = kv K2 V2 m1 ++ [(K2 y, V2 y)]
                  rw [hkv, c1, c2]) ls (lv_sub hl [3, 4, 5, 0] rfl)
            · refine lv_iconst (v := 0) hx hb d_md_same_132 (by decide) ?_
              exact cg_zret (u := ()) hQ hx hb hr hlk hK hP hD hS rfl (by rw [show mt L L2 = false from Bool.eq_false_iff.mpr (fun z9 => c2 (hcut (hmi.mp z9)).2)]; rfl) d_md_same_133
    exact loop Sp [] [] Sp2 rfl rfl rfl rfl ls (lv_sub hl [1, 2, 3, 0] rfl)
  · refine lv_icmp_eq (tgt := 37) hx hb d_md_same_32 (by decide) (fun z9 => absurd z9 (fun z9 => hle ((nI_eq (by omega) (by omega)).mp z9))) (fun _ => ?_)
    have hmf : ¬ mt L L2 = true := fun z9 => by
      have h9 := congrArg List.length (hmi.mp z9)
      simp only [kv, List.length_map] at h9
      omega
    refine lv_iconst (v := 0) hx hb d_md_same_35 (by decide) ?_
    exact cg_zret (u := ()) hQ hx hb hr hlk hK hP hD hS rfl (by rw [show mt L L2 = false from Bool.eq_false_iff.mpr (fun z9 => hmf z9)]; rfl) d_md_same_36
set_option maxRecDepth 100000 in
set_option maxHeartbeats 4000000 in
/-- same, one map twice -/
theorem c_md_same_s (l : Launch) (D : va_G) (cI cT cP : ClassId) (h r : Nat) (ft : Nat → Option Nat) (km : Nat) (hkm : km < 3) (a : Nat) (hft : ft km = some a) (j : Nat) (L : List (Int32 × Int32)) (u0 : PB) (hL : PL j L u0) : Cg l y_md_same b_md_same 6 (some .boolean) 1 0 0 D (ty3 cI cT cP) [.ref h, .int (nI km), .int (nI km)] ([(h, .inr (3, [.ref r])), (r, .inl (cP, 3, .inr (.inr (.inr (.inr ft)))))] ++ (pw cI a j u0)) (fun (v : Option Value) (u : Unit) => v = some (.int 1)) (fun u => [(h, .inr (3, [.ref r])), (r, .inl (cP, 3, .inr (.inr (.inr (.inr ft)))))] ++ (pw cI a j u0)) := by
  obtain ⟨qs, qk, qv, qb, qn, Z, K, V, P, N, fr, mm, fi, la, R⟩ := u0
  obtain ⟨Fr, Sp, hPA, hPN, hPS, hsF, eL⟩ := hL
  have hPA : PA (2 ^ (4 + j)) j mm R Fr := hPA
  have hPN : PN P N fi la R := hPN
  have hPS : PS K Z R Sp := hPS
  have hsF : sg N fr Fr (-1) := hsF
  have eL : L = kv K V R := eL
  have hLl : L.length = R.length := by rw [eL]; exact List.length_map ..
  have hpn := pa_n hPA
  have hn : 2 ^ (4 + j) < 2 ^ 31 := by omega
  have hSl : Sp.length = R.length := hPS.1.length_eq
  have hin2 : ∀ x, x ∈ Sp → x < 2 ^ (4 + j) := fun x hx1 => (pa_in hPA (hPS.1.mem_iff.mp hx1)).2
  have hnd := ps_nd hPS
  refine cg_enter rfl (Nat.le_of_ble_eq_true rfl) ?_
  intro p e s m below meth c args hx hb hr hlk hml hown hin hts A hA hK hP hD hS ls hl Q hQ
  have hl : lv_has ls 6 [(0, .ref h), (1, .int (nI km)), (2, .int (nI km))] := hl
  have hP : va_P D cls ([(h, .inr (3, [.ref r])), (r, .inl (cP, 3, .inr (.inr (.inr (.inr ft)))))] ++ (px cI a qs qk qv qb qn (2 ^ (4 + j)) Z K V P N (nI R.length) fr (nI mm) fi la)) s.heap := hP
  have hD : va_D A ([(h, .inr (3, [.ref r])), (r, .inl (cP, 3, .inr (.inr (.inr (.inr ft)))))] ++ (px cI a qs qk qv qb qn (2 ^ (4 + j)) Z K V P N (nI R.length) fr (nI mm) fi la)) := hD
  refine lv_iload_n hx hb d_md_same_0 rfl (lv_at hl 1 rfl) ?_
  refine cg_S (hn := 1) (As := [.int (nI km)]) (rest := []) (wr := [(h, .inr (3, [.ref r])), (r, .inl (cP, 3, .inr (.inr (.inr (.inr ft)))))] ++ (px cI a qs qk qv qb qn (2 ^ (4 + j)) Z K V P N (nI R.length) fr (nI mm) fi la)) hx hb hml hown hts (c_md_isMap l D cI cT cP km hkm) km_md_20 kt_md_isMap kn_md kc_md_isMap (by decide +kernel) rfl ⟨Nat.le_of_ble_eq_true rfl, Nat.le_of_ble_eq_true rfl⟩ hK hP hD hS hA [] [0, 1, 2, 3, 4, 5, 6, 7] rfl (by decide) rfl (by decide) (by decide) hl.1 rfl (Nat.le_of_ble_eq_true rfl) d_md_same_1 ⟨Nat.zero_le _, Nat.zero_le _⟩ (fun v u H locs hpost hP hD hS => ?_)
  subst hpost
  refine W.eq (g2 := F0 m 4 ls [.int 1]) rfl ?_
  have hP : va_P D cls ([(h, .inr (3, [.ref r])), (r, .inl (cP, 3, .inr (.inr (.inr (.inr ft)))))] ++ (px cI a qs qk qv qb qn (2 ^ (4 + j)) Z K V P N (nI R.length) fr (nI mm) fi la)) H := hP
  have hD : va_D A ([(h, .inr (3, [.ref r])), (r, .inl (cP, 3, .inr (.inr (.inr (.inr ft)))))] ++ (px cI a qs qk qv qb qn (2 ^ (4 + j)) Z K V P N (nI R.length) fr (nI mm) fi la)) := hD
  refine lv_if_eq (tgt := 35) hx hb d_md_same_4 (by decide) (fun z9 => absurd z9 (by decide)) (fun _ => ?_)
  refine lv_iload_n hx hb d_md_same_7 rfl (lv_at hl 2 rfl) ?_
  refine cg_S (hn := 1) (As := [.int (nI km)]) (rest := []) (wr := [(h, .inr (3, [.ref r])), (r, .inl (cP, 3, .inr (.inr (.inr (.inr ft)))))] ++ (px cI a qs qk qv qb qn (2 ^ (4 + j)) Z K V P N (nI R.length) fr (nI mm) fi la)) hx hb hml hown hts (c_md_isMap l D cI cT cP km hkm) km_md_20 kt_md_isMap kn_md kc_md_isMap (by decide +kernel) rfl ⟨Nat.le_of_ble_eq_true rfl, Nat.le_of_ble_eq_true rfl⟩ hK hP hD hS hA [] [0, 1, 2, 3, 4, 5, 6, 7] rfl (by decide) rfl (by decide) (by decide) hl.1 rfl (Nat.le_of_ble_eq_true rfl) d_md_same_8 ⟨Nat.zero_le _, Nat.zero_le _⟩ (fun v u H locs hpost hP hD hS => ?_)
  subst hpost
  refine W.eq (g2 := F0 m 11 ls [.int 1]) rfl ?_
  have hP : va_P D cls ([(h, .inr (3, [.ref r])), (r, .inl (cP, 3, .inr (.inr (.inr (.inr ft)))))] ++ (px cI a qs qk qv qb qn (2 ^ (4 + j)) Z K V P N (nI R.length) fr (nI mm) fi la)) H := hP
  have hD : va_D A ([(h, .inr (3, [.ref r])), (r, .inl (cP, 3, .inr (.inr (.inr (.inr ft)))))] ++ (px cI a qs qk qv qb qn (2 ^ (4 + j)) Z K V P N (nI R.length) fr (nI mm) fi la)) := hD
  refine lv_if_eq (tgt := 35) hx hb d_md_same_11 (by decide) (fun z9 => absurd z9 (by decide)) (fun _ => ?_)
  refine lv_aload_n hx hb d_md_same_14 rfl (lv_at hl 0 rfl) ?_
  refine va_get (D := D) (ci := 3) (v := .ref r) (C := R_md) (T := F_md) (N := 1) hx hb hts i_md hown hK hP 0 rfl rfl 0 (by decide) (hts _ kf_md_12) (fun _ h9 => h9) rfl d_md_same_15 ?_
  refine lv_iload_n hx hb d_md_same_18 rfl (lv_at hl 1 rfl) ?_
  refine wa_ald (k := km) (b := a) hx hb hK hP 1 2 rfl rfl hkm (by decide) hft d_md_same_19 ?_
  refine va_get (D := D) (ci := 2) (v := .int (nI R.length)) (C := R_pr) (T := F_pr) (N := 10) hx hb hts i_pr hown hK hP 2 rfl rfl 5 (by decide) (hts _ kf_md_50) (fun _ h9 => h9) rfl d_md_same_20 ?_
  refine lv_aload_n hx hb d_md_same_23 rfl (lv_at hl 0 rfl) ?_
  refine va_get (D := D) (ci := 3) (v := .ref r) (C := R_md) (T := F_md) (N := 1) hx hb hts i_md hown hK hP 0 rfl rfl 0 (by decide) (hts _ kf_md_12) (fun _ h9 => h9) rfl d_md_same_24 ?_
  refine lv_iload_n hx hb d_md_same_27 rfl (lv_at hl 2 rfl) ?_
  refine wa_ald (k := km) (b := a) hx hb hK hP 1 2 rfl rfl hkm (by decide) hft d_md_same_28 ?_
  refine va_get (D := D) (ci := 2) (v := .int (nI R.length)) (C := R_pr) (T := F_pr) (N := 10) hx hb hts i_pr hown hK hP 2 rfl rfl 5 (by decide) (hts _ kf_md_50) (fun _ h9 => h9) rfl d_md_same_29 ?_
  refine lv_icmp_eq (tgt := 37) hx hb d_md_same_32 (by decide) (fun _ => ?_) (fun z9 => absurd rfl z9)
  refine lv_iconst (v := 0) hx hb d_md_same_37 (by decide) ?_
  refine lv_istore_n (lv' := [(3, .int 0), (0, .ref h), (1, .int (nI km)), (2, .int (nI km))]) hx hb d_md_same_38 rfl hl (by decide) rfl (fun ls hl => ?_)
  have loop : ∀ (l2 l1 : List Nat), Sp = l1 ++ l2 → ∀ ls : Array Slot, lv_has ls 6 [(0, .ref h), (1, .int (nI km)), (2, .int (nI km)), (3, .int (nI l1.length))] → W p l e (rmL 1 0 0) s m args below meth c H locs 0 0 Q (F0 m 39 ls []) := by
    intro l2
    induction l2 with
    | nil =>
      intro l1 eS ls hl
      have hl1 : l1 = Sp := by rw [eS, List.append_nil]
      refine lv_iload_n hx hb d_md_same_39 rfl (lv_at hl 3 rfl) ?_
      refine lv_aload_n hx hb d_md_same_40 rfl (lv_at hl 0 rfl) ?_
      refine va_get (D := D) (ci := 3) (v := .ref r) (C := R_md) (T := F_md) (N := 1) hx hb hts i_md hown hK hP 0 rfl rfl 0 (by decide) (hts _ kf_md_12) (fun _ h9 => h9) rfl d_md_same_41 ?_
      refine lv_iload_n hx hb d_md_same_44 rfl (lv_at hl 1 rfl) ?_
      refine wa_ald (k := km) (b := a) hx hb hK hP 1 2 rfl rfl hkm (by decide) hft d_md_same_45 ?_
      refine va_get (D := D) (ci := 2) (v := .int (nI R.length)) (C := R_pr) (T := F_pr) (N := 10) hx hb hts i_pr hown hK hP 2 rfl rfl 5 (by decide) (hts _ kf_md_50) (fun _ h9 => h9) rfl d_md_same_46 ?_
      refine lv_icmp_ge (tgt := 140) hx hb d_md_same_49 (by decide) (fun _ => ?_) (fun z9 => absurd (by rw [hl1, hSl]; exact nI_le (Nat.le_refl _) (by omega)) z9)
      refine lv_iconst (v := 1) hx hb d_md_same_140 (by decide) ?_
      exact cg_zret (u := ()) hQ hx hb hr hlk hK hP hD hS rfl rfl d_md_same_141
    | cons x l2 ih =>
      intro l1 eS ls hl
      have hxS : x ∈ Sp := by rw [eS]; exact List.mem_append_right _ (List.mem_cons_self ..)
      have hxR := hPS.1.mem_iff.mp hxS
      have hxn := pa_in hPA hxR
      have hlt : l1.length < R.length := by rw [← hSl, eS, List.length_append, List.length_cons]; omega
      have sZ : Z l1.length = nI x := by
        rw [hPS.2.2 _ (by omega), eS, getD_hd]
        rfl
      refine lv_iload_n hx hb d_md_same_39 rfl (lv_at hl 3 rfl) ?_
      refine lv_aload_n hx hb d_md_same_40 rfl (lv_at hl 0 rfl) ?_
      refine va_get (D := D) (ci := 3) (v := .ref r) (C := R_md) (T := F_md) (N := 1) hx hb hts i_md hown hK hP 0 rfl rfl 0 (by decide) (hts _ kf_md_12) (fun _ h9 => h9) rfl d_md_same_41 ?_
      refine lv_iload_n hx hb d_md_same_44 rfl (lv_at hl 1 rfl) ?_
      refine wa_ald (k := km) (b := a) hx hb hK hP 1 2 rfl rfl hkm (by decide) hft d_md_same_45 ?_
      refine va_get (D := D) (ci := 2) (v := .int (nI R.length)) (C := R_pr) (T := F_pr) (N := 10) hx hb hts i_pr hown hK hP 2 rfl rfl 5 (by decide) (hts _ kf_md_50) (fun _ h9 => h9) rfl d_md_same_46 ?_
      refine lv_icmp_ge (tgt := 140) hx hb d_md_same_49 (by decide) (fun z9 => absurd z9 (nI_ge hlt (by omega))) (fun _ => ?_)
      refine lv_aload_n hx hb d_md_same_52 rfl (lv_at hl 0 rfl) ?_
      refine va_get (D := D) (ci := 3) (v := .ref r) (C := R_md) (T := F_md) (N := 1) hx hb hts i_md hown hK hP 0 rfl rfl 0 (by decide) (hts _ kf_md_12) (fun _ h9 => h9) rfl d_md_same_53 ?_
      refine lv_iload_n hx hb d_md_same_56 rfl (lv_at hl 1 rfl) ?_
      refine wa_ald (k := km) (b := a) hx hb hK hP 1 2 rfl rfl hkm (by decide) hft d_md_same_57 ?_
      refine va_get (D := D) (ci := 2) (v := .ref qs) (C := R_pr) (T := F_pr) (N := 10) hx hb hts i_pr hown hK hP 2 rfl rfl 0 (by decide) (hts _ kf_md_54) (fun _ h9 => h9) rfl d_md_same_58 ?_
      refine lv_iload_n hx hb d_md_same_61 rfl (lv_at hl 3 rfl) ?_
      refine wa_ld (k := l1.length) hx hb hK hP 3 0 rfl rfl (by omega) hn d_md_same_62 ?_
      refine tp_i (y := nI x) sZ ?_
      refine lv_istore (lv' := [(4, .int (nI x)), (0, .ref h), (1, .int (nI km)), (2, .int (nI km)), (3, .int (nI l1.length))]) hx hb d_md_same_63 hl (by decide) rfl (fun ls hl => ?_)
      refine lv_aload_n hx hb d_md_same_65 rfl (lv_at hl 1 rfl) ?_
      refine va_get (D := D) (ci := 3) (v := .ref r) (C := R_md) (T := F_md) (N := 1) hx hb hts i_md hown hK hP 0 rfl rfl 0 (by decide) (hts _ kf_md_12) (fun _ h9 => h9) rfl d_md_same_66 ?_
      refine lv_iload_n hx hb d_md_same_69 rfl (lv_at hl 3 rfl) ?_
      refine wa_ald (k := km) (b := a) hx hb hK hP 1 2 rfl rfl hkm (by decide) hft d_md_same_70 ?_
      refine va_get (D := D) (ci := 2) (v := .ref qs) (C := R_pr) (T := F_pr) (N := 10) hx hb hts i_pr hown hK hP 2 rfl rfl 0 (by decide) (hts _ kf_md_54) (fun _ h9 => h9) rfl d_md_same_71 ?_
      refine lv_iload_n hx hb d_md_same_74 rfl (lv_at hl 4 rfl) ?_
      refine wa_ld (k := l1.length) hx hb hK hP 3 0 rfl rfl (by omega) hn d_md_same_75 ?_
      refine tp_i (y := nI x) sZ ?_
      refine lv_istore (lv' := [(5, .int (nI x)), (4, .int (nI x)), (0, .ref h), (1, .int (nI km)), (2, .int (nI km)), (3, .int (nI l1.length))]) hx hb d_md_same_76 hl (by decide) rfl (fun ls hl => ?_)
      refine lv_aload_n hx hb d_md_same_78 rfl (lv_at hl 2 rfl) ?_
      refine va_get (D := D) (ci := 3) (v := .ref r) (C := R_md) (T := F_md) (N := 1) hx hb hts i_md hown hK hP 0 rfl rfl 0 (by decide) (hts _ kf_md_12) (fun _ h9 => h9) rfl d_md_same_79 ?_
      refine lv_iload_n hx hb d_md_same_82 rfl (lv_at hl 3 rfl) ?_
      refine wa_ald (k := km) (b := a) hx hb hK hP 1 2 rfl rfl hkm (by decide) hft d_md_same_83 ?_
      refine va_get (D := D) (ci := 2) (v := .ref qk) (C := R_pr) (T := F_pr) (N := 10) hx hb hts i_pr hown hK hP 2 rfl rfl 1 (by decide) (hts _ kf_md_60) (fun _ h9 => h9) rfl d_md_same_84 ?_
      refine lv_iload hx hb d_md_same_87 (lv_at hl 1 rfl) ?_
      refine wa_ld (k := x) hx hb hK hP 4 0 rfl rfl hxn.2 hn d_md_same_89 ?_
      refine lv_aload_n hx hb d_md_same_90 rfl (lv_at hl 2 rfl) ?_
      refine va_get (D := D) (ci := 3) (v := .ref r) (C := R_md) (T := F_md) (N := 1) hx hb hts i_md hown hK hP 0 rfl rfl 0 (by decide) (hts _ kf_md_12) (fun _ h9 => h9) rfl d_md_same_91 ?_
      refine lv_iload_n hx hb d_md_same_94 rfl (lv_at hl 4 rfl) ?_
      refine wa_ald (k := km) (b := a) hx hb hK hP 1 2 rfl rfl hkm (by decide) hft d_md_same_95 ?_
      refine va_get (D := D) (ci := 2) (v := .ref qk) (C := R_pr) (T := F_pr) (N := 10) hx hb hts i_pr hown hK hP 2 rfl rfl 1 (by decide) (hts _ kf_md_60) (fun _ h9 => h9) rfl d_md_same_96 ?_
      refine lv_iload hx hb d_md_same_99 (lv_at hl 0 rfl) ?_
      refine wa_ld (k := x) hx hb hK hP 4 0 rfl rfl hxn.2 hn d_md_same_101 ?_
      refine lv_icmp_ne (tgt := 132) hx hb d_md_same_102 (by decide) (fun z9 => absurd rfl z9) (fun _ => ?_)
      refine lv_aload_n hx hb d_md_same_105 rfl (lv_at hl 2 rfl) ?_
      refine va_get (D := D) (ci := 3) (v := .ref r) (C := R_md) (T := F_md) (N := 1) hx hb hts i_md hown hK hP 0 rfl rfl 0 (by decide) (hts _ kf_md_12) (fun _ h9 => h9) rfl d_md_same_106 ?_
      refine lv_iload_n hx hb d_md_same_109 rfl (lv_at hl 3 rfl) ?_
      refine wa_ald (k := km) (b := a) hx hb hK hP 1 2 rfl rfl hkm (by decide) hft d_md_same_110 ?_
      refine va_get (D := D) (ci := 2) (v := .ref qv) (C := R_pr) (T := F_pr) (N := 10) hx hb hts i_pr hown hK hP 2 rfl rfl 2 (by decide) (hts _ kf_md_36) (fun _ h9 => h9) rfl d_md_same_111 ?_
      refine lv_iload hx hb d_md_same_114 (lv_at hl 1 rfl) ?_
      refine wa_ld (k := x) hx hb hK hP 5 0 rfl rfl hxn.2 hn d_md_same_116 ?_
      refine lv_aload_n hx hb d_md_same_117 rfl (lv_at hl 2 rfl) ?_
      refine va_get (D := D) (ci := 3) (v := .ref r) (C := R_md) (T := F_md) (N := 1) hx hb hts i_md hown hK hP 0 rfl rfl 0 (by decide) (hts _ kf_md_12) (fun _ h9 => h9) rfl d_md_same_118 ?_
      refine lv_iload_n hx hb d_md_same_121 rfl (lv_at hl 4 rfl) ?_
      refine wa_ald (k := km) (b := a) hx hb hK hP 1 2 rfl rfl hkm (by decide) hft d_md_same_122 ?_
      refine va_get (D := D) (ci := 2) (v := .ref qv) (C := R_pr) (T := F_pr) (N := 10) hx hb hts i_pr hown hK hP 2 rfl rfl 2 (by decide) (hts _ kf_md_36) (fun _ h9 => h9) rfl d_md_same_123 ?_
      refine lv_iload hx hb d_md_same_126 (lv_at hl 0 rfl) ?_
      refine wa_ld (k := x) hx hb hK hP 5 0 rfl rfl hxn.2 hn d_md_same_128 ?_
      refine lv_icmp_eq (tgt := 134) hx hb d_md_same_129 (by decide) (fun _ => ?_) (fun z9 => absurd rfl z9)
      refine lv_iinc (v := nI (l1 ++ [x]).length) (lv' := [(3, .int (nI (l1 ++ [x]).length)), (5, .int (nI x)), (4, .int (nI x)), (0, .ref h), (1, .int (nI km)), (2, .int (nI km))]) hx hb d_md_same_134 hl (k := 5) rfl (inc_l l1 x) (by decide) rfl (fun ls hl => ?_)
      refine lv_goto (tgt := 39) hx hb d_md_same_137 (by decide) ?_
      exact ih (l1 ++ [x]) (by rw [eS]; simp) ls (lv_sub hl [3, 4, 5, 0] rfl)
  exact loop Sp [] rfl ls (lv_sub hl [1, 2, 3, 0] rfl)
set_option maxRecDepth 100000 in
set_option maxHeartbeats 4000000 in
/-- same, refused -/
theorem c_md_same_x (l : Launch) (D : va_G) (cI cT cP : ClassId) (h r : Nat) (q1 q2 : Int32) (hq : bad q1 ∨ bad q2) : Cg l y_md_same b_md_same 6 (some .boolean) 1 0 0 D (ty3 cI cT cP) [.ref h, .int q1, .int q2] ([(h, .inr (3, [.ref r]))]) (fun (v : Option Value) (u : Unit) => v = some (.int 0)) (fun u => [(h, .inr (3, [.ref r]))]) := by
  refine cg_enter rfl (Nat.le_of_ble_eq_true rfl) ?_
  intro p e s m below meth c args hx hb hr hlk hml hown hin hts A hA hK hP hD hS ls hl Q hQ
  have hl : lv_has ls 6 [(0, .ref h), (1, .int q1), (2, .int q2)] := hl
  have hP : va_P D cls ([(h, .inr (3, [.ref r]))]) s.heap := hP
  have hD : va_D A ([(h, .inr (3, [.ref r]))]) := hD
  rcases bad_or q1 with b1 | ⟨k1, hk1, e1⟩
  · refine lv_iload_n hx hb d_md_same_0 rfl (lv_at hl 1 rfl) ?_
    refine cg_S (hn := 1) (As := [.int q1]) (rest := []) (wr := [(h, .inr (3, [.ref r]))]) hx hb hml hown hts (c_md_isMap_x l D cI cT cP q1 b1) km_md_20 kt_md_isMap kn_md kc_md_isMap (by decide +kernel) rfl ⟨Nat.le_of_ble_eq_true rfl, Nat.le_of_ble_eq_true rfl⟩ hK hP hD hS hA [] [0] rfl (by decide) rfl (by decide) (by decide) hl.1 rfl (Nat.le_of_ble_eq_true rfl) d_md_same_1 ⟨Nat.zero_le _, Nat.zero_le _⟩ (fun v u H locs hpost hP hD hS => ?_)
    subst hpost
    refine W.eq (g2 := F0 m 4 ls [.int 0]) rfl ?_
    have hP : va_P D cls ([(h, .inr (3, [.ref r]))]) H := hP
    have hD : va_D A ([(h, .inr (3, [.ref r]))]) := hD
    refine lv_if_eq (tgt := 35) hx hb d_md_same_4 (by decide) (fun _ => ?_) (fun z9 => absurd rfl z9)
    refine lv_iconst (v := 0) hx hb d_md_same_35 (by decide) ?_
    exact cg_zret (u := ()) hQ hx hb hr hlk hK hP hD hS rfl rfl d_md_same_36
  · subst e1
    have b2 : bad q2 := hq.elim (fun z9 => absurd z9 (fun z8 => z8.elim (nI_pos (by omega)) (nI_ge hk1 (by decide)))) id
    refine lv_iload_n hx hb d_md_same_0 rfl (lv_at hl 1 rfl) ?_
    refine cg_S (hn := 1) (As := [.int (nI k1)]) (rest := []) (wr := [(h, .inr (3, [.ref r]))]) hx hb hml hown hts (c_md_isMap l D cI cT cP k1 hk1) km_md_20 kt_md_isMap kn_md kc_md_isMap (by decide +kernel) rfl ⟨Nat.le_of_ble_eq_true rfl, Nat.le_of_ble_eq_true rfl⟩ hK hP hD hS hA [] [0] rfl (by decide) rfl (by decide) (by decide) hl.1 rfl (Nat.le_of_ble_eq_true rfl) d_md_same_1 ⟨Nat.zero_le _, Nat.zero_le _⟩ (fun v u H locs hpost hP hD hS => ?_)
    subst hpost
    refine W.eq (g2 := F0 m 4 ls [.int 1]) rfl ?_
    have hP : va_P D cls ([(h, .inr (3, [.ref r]))]) H := hP
    have hD : va_D A ([(h, .inr (3, [.ref r]))]) := hD
    refine lv_if_eq (tgt := 35) hx hb d_md_same_4 (by decide) (fun z9 => absurd z9 (by decide)) (fun _ => ?_)
    refine lv_iload_n hx hb d_md_same_7 rfl (lv_at hl 2 rfl) ?_
    refine cg_S (hn := 1) (As := [.int q2]) (rest := []) (wr := [(h, .inr (3, [.ref r]))]) hx hb hml hown hts (c_md_isMap_x l D cI cT cP q2 b2) km_md_20 kt_md_isMap kn_md kc_md_isMap (by decide +kernel) rfl ⟨Nat.le_of_ble_eq_true rfl, Nat.le_of_ble_eq_true rfl⟩ hK hP hD hS hA [] [0] rfl (by decide) rfl (by decide) (by decide) hl.1 rfl (Nat.le_of_ble_eq_true rfl) d_md_same_8 ⟨Nat.zero_le _, Nat.zero_le _⟩ (fun v u H locs hpost hP hD hS => ?_)
    subst hpost
    refine W.eq (g2 := F0 m 11 ls [.int 0]) rfl ?_
    have hP : va_P D cls ([(h, .inr (3, [.ref r]))]) H := hP
    have hD : va_D A ([(h, .inr (3, [.ref r]))]) := hD
    refine lv_if_eq (tgt := 35) hx hb d_md_same_11 (by decide) (fun _ => ?_) (fun z9 => absurd rfl z9)
    refine lv_iconst (v := 0) hx hb d_md_same_35 (by decide) ?_
    exact cg_zret (u := ()) hQ hx hb hr hlk hK hP hD hS rfl rfl d_md_same_36
