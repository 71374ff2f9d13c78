-- HashHall (3): printed by wip/whole/gen/hh3.py
/-- how many entries a fill asks for -/
def fc (n : Int32) : Nat := if n < 0 then 0 else n.toNatClampNeg
def fo (n : Int32) (L : List (Int32 × Int32)) : Bool := decide (1 ≤ fc n ∧ fc n ≤ 400 ∧ L.length ≤ 1000)
def fj (mv : Bool) (f d : Int32) : Nat × List (Int32 × Int32) → Nat → Nat → Nat × List (Int32 × Int32)
  | jl, _, 0 => jl
  | jl, i, c + 1 => fj mv f d (njs jl.1 (f + nI i * d) jl.2, st mv (f + nI i * d) (nI i) jl.2) (i + 1) c
def fp (mv : Bool) (f d n : Int32) (jl : Nat × List (Int32 × Int32)) : Nat × List (Int32 × Int32) := if fo n jl.2 then fj mv f d jl 0 (fc n) else jl
def fa (mv : Bool) (f d n : Int32) (jl : Nat × List (Int32 × Int32)) : Int32 := if fo n jl.2 then nI (fp mv f d n jl).2.length else -1
theorem fc_nI {c : Nat} (h : c < 2 ^ 31) : fc (nI c) = c := by
  unfold fc
  rw [if_neg (nI_pos h), nI_clamp h]
theorem fc_cases (n : Int32) : (n < 1 ∧ fc n = 0) ∨ (400 < n ∧ ¬ n < 1 ∧ 400 < fc n) ∨ ∃ c, 1 ≤ c ∧ c ≤ 400 ∧ n = nI c ∧ fc n = c := by
  by_cases h : n < 0
  · refine Or.inl ⟨?_, by unfold fc; rw [if_pos h]⟩
    rw [Int32.lt_iff_toInt_lt] at h ⊢
    have h1 : (1 : Int32).toInt = 1 := by decide
    have h0 : (0 : Int32).toInt = 0 := by decide
    omega
  · obtain ⟨c, hc, e⟩ := nI_of h
    subst e
    rw [fc_nI hc]
    have e1 : (1 : Int32) = nI 1 := rfl
    have e4 : (400 : Int32) = nI 400 := rfl
    by_cases h1 : c < 1
    · refine Or.inl ⟨?_, by omega⟩
      rw [e1, nI_ltI hc (by decide)]
      exact h1
    · by_cases h4 : 400 < c
      · refine Or.inr (Or.inl ⟨?_, ?_, h4⟩)
        · rw [e4, nI_ltI (by decide) hc]; exact h4
        · rw [e1, nI_ltI hc (by decide)]; exact h1
      · exact Or.inr (Or.inr ⟨c, by omega, by omega, rfl, rfl⟩)
theorem fj_le {mv : Bool} {f d : Int32} {c : Nat} : ∀ (jl : Nat × List (Int32 × Int32)) (i : Nat), jl.1 ≤ (fj mv f d jl i c).1 := by
  induction c with
  | zero => exact fun jl i => Nat.le_refl _
  | succ c ih => exact fun jl i => Nat.le_trans (njs_le jl.1 (f + nI i * d) jl.2) (ih (njs jl.1 (f + nI i * d) jl.2, st mv (f + nI i * d) (nI i) jl.2) (i + 1))
set_option maxRecDepth 100000 in
set_option maxHeartbeats 4000000 in
/-- fill -/
theorem c_hh_fill (l : Launch) (D : va_G) (cI cT cP : ClassId) (h r : Nat) (ft : Nat → Option Nat) (km : Nat) (hkm : km < 3) (a : Nat) (hft : ft km = some a) (mv : Bool) (j : Nat) (L : List (Int32 × Int32)) (u0 : TB) (hL : TL j L u0) (f0 s0 n0 : Int32) : Cg l y_hh_fill b_hh_fill 7 (some .int) 5 (mcT j (fp mv f0 s0 n0 (j, L)).1) (msT j (fp mv f0 s0 n0 (j, L)).1) D (ty3 cI cT cP) [.ref h, .int (nI km), .int f0, .int s0, .int n0] ([(h, .inr (1, [.ref r])), (r, .inl (cT, 3, .inr (.inr (.inr (.inr ft)))))] ++ (tw cI a mv j u0)) (fun (v : Option Value) (u : TB) => v = some (.int (fa mv f0 s0 n0 (j, L))) ∧ TL (fp mv f0 s0 n0 (j, L)).1 (fp mv f0 s0 n0 (j, L)).2 u) (fun u => [(h, .inr (1, [.ref r])), (r, .inl (cT, 3, .inr (.inr (.inr (.inr ft)))))] ++ (tw cI a mv ((fp mv f0 s0 n0 (j, L)).1) u)) := by
  obtain ⟨qk, qv, qb, qf, qh, qc, K, V, P, N, G, C, fl, mm, R⟩ := u0
  obtain ⟨Fr, bl, hTA, hTN, hTH, hKn, eL⟩ := hL
  have hTA : TA (2 ^ (4 + j)) j mm R Fr := hTA
  have hTN : TN P N R := hTN
  have hTH : TH (2 ^ (4 + j)) K G C fl R Fr bl := hTH
  have hKn : (R.map K).Nodup := hKn
  have eL : L = kv K V R := eL
  have hLl : L.length = R.length := by rw [eL]; exact List.length_map ..
  have hn : 2 ^ (4 + j) < 2 ^ 31 := (ta_len hTA).2.2
  have hRl : R.length < 2 ^ 31 := (ta_len hTA).2.1
  refine cg_enter rfl (Nat.le_of_ble_eq_true rfl) ?_
  intro p e s m below meth c args hx hb hr hlk hml hown hin hts A hA hK hP hD hS ls hl Q hQ
  have hl : lv_has ls 7 [(0, .ref h), (1, .int (nI km)), (2, .int f0), (3, .int s0), (4, .int n0)] := hl
  have hP : va_P D cls ([(h, .inr (1, [.ref r])), (r, .inl (cT, 3, .inr (.inr (.inr (.inr ft)))))] ++ (tx cI a (mvI mv) (nI R.length) qk qv qb qf qh qc (2 ^ (4 + j)) K V P N G C fl (nI mm))) s.heap := hP
  have hD : va_D A ([(h, .inr (1, [.ref r])), (r, .inl (cT, 3, .inr (.inr (.inr (.inr ft)))))] ++ (tx cI a (mvI mv) (nI R.length) qk qv qb qf qh qc (2 ^ (4 + j)) K V P N G C fl (nI mm))) := hD
  refine lv_aload_n hx hb d_hh_fill_0 rfl (lv_at hl 0 rfl) ?_
  refine lv_iload_n hx hb d_hh_fill_1 rfl (lv_at hl 1 rfl) ?_
  refine cg_V (hn := 1) (As := [.int (nI km)]) (rest := []) (wr := tx cI a (mvI mv) (nI R.length) qk qv qb qf qh qc (2 ^ (4 + j)) K V P N G C fl (nI mm)) (q0 := 0) (ci := 1) hx hb hml hown hts (c_hh_tableOf l D cI cT cP h r ft km hkm a hft) km_hh_18 ki_hh_tableOf ks_hh_tableOf kn_hh kc_hh_tableOf (by decide +kernel) rfl ⟨Nat.le_of_ble_eq_true rfl, Nat.le_of_ble_eq_true rfl⟩ hK hP hD hS hA [0, 1] [2, 3, 4, 5, 6, 7, 8] rfl (by decide) rfl (by decide) (by decide) rfl rfl hl.1 rfl (Nat.le_of_ble_eq_true rfl) d_hh_fill_2 ⟨Nat.zero_le _, Nat.zero_le _⟩ (fun v u H locs hpost hP hD hS => ?_)
  subst hpost
  refine W.eq (g2 := F0 m 5 ls [.ref a]) rfl ?_
  have hP : va_P D cls ((tx cI a (mvI mv) (nI R.length) qk qv qb qf qh qc (2 ^ (4 + j)) K V P N G C fl (nI mm)) ++ [(h, .inr (1, [.ref r])), (r, .inl (cT, 3, .inr (.inr (.inr (.inr ft)))))]) H := hP
  have hD : va_D A ((tx cI a (mvI mv) (nI R.length) qk qv qb qf qh qc (2 ^ (4 + j)) K V P N G C fl (nI mm)) ++ [(h, .inr (1, [.ref r])), (r, .inl (cT, 3, .inr (.inr (.inr (.inr ft)))))]) := hD
  have hP : va_P D cls ([(h, .inr (1, [.ref r])), (r, .inl (cT, 3, .inr (.inr (.inr (.inr ft)))))] ++ (tx cI a (mvI mv) (nI R.length) qk qv qb qf qh qc (2 ^ (4 + j)) K V P N G C fl (nI mm))) H := hP.sub [7, 8, 0, 1, 2, 3, 4, 5, 6] rfl
  have hD : va_D A ([(h, .inr (1, [.ref r])), (r, .inl (cT, 3, .inr (.inr (.inr (.inr ft)))))] ++ (tx cI a (mvI mv) (nI R.length) qk qv qb qf qh qc (2 ^ (4 + j)) K V P N G C fl (nI mm))) := hD.sub [7, 8, 0, 1, 2, 3, 4, 5, 6] (by decide) rfl
  refine lv_astore (lv' := [(5, .ref a), (0, .ref h), (1, .int (nI km)), (2, .int f0), (3, .int s0), (4, .int n0)]) hx hb d_hh_fill_5 hl (by decide) rfl (fun ls hl => ?_)
  refine lv_aload hx hb d_hh_fill_7 (lv_at hl 0 rfl) ?_
  refine lv_ifnull hx hb d_hh_fill_9 ?_
  refine lv_iload hx hb d_hh_fill_12 (lv_at hl 5 rfl) ?_
  refine lv_iconst (v := 1) hx hb d_hh_fill_14 (by decide) ?_
  rcases fc_cases n0 with ⟨h1, h2⟩ | ⟨h1, h1b, h2⟩ | ⟨c0, h1, h2, h3, h4⟩
  · refine lv_icmp_lt (tgt := 37) hx hb d_hh_fill_15 (by decide) (fun _ => ?_) (fun z9 => absurd h1 z9)
    have hfo : fo n0 L = false := decide_eq_false (fun z9 => by omega)
    have ep : fp mv f0 s0 n0 (j, L) = (j, L) := by unfold fp; rw [hfo]; rfl
    refine lv_iconst (v := (-1)) hx hb d_hh_fill_37 (by decide) ?_
    refine W.widen (k := mcT j (fp mv f0 s0 n0 (j, L)).1) (n := msT j (fp mv f0 s0 n0 (j, L)).1) (Nat.zero_le _) (Nat.zero_le _) ?_
    have hP : va_P D cls ([(h, .inr (1, [.ref r])), (r, .inl (cT, 3, .inr (.inr (.inr (.inr ft)))))] ++ (tw cI a mv (fp mv f0 s0 n0 (j, L)).1 (qk, qv, qb, qf, qh, qc, K, V, P, N, G, C, fl, mm, R))) H := by rw [ep]; exact hP
    have hD : va_D A ([(h, .inr (1, [.ref r])), (r, .inl (cT, 3, .inr (.inr (.inr (.inr ft)))))] ++ (tw cI a mv (fp mv f0 s0 n0 (j, L)).1 (qk, qv, qb, qf, qh, qc, K, V, P, N, G, C, fl, mm, R))) := by rw [ep]; exact hD
    exact cg_iret (u := (qk, qv, qb, qf, qh, qc, K, V, P, N, G, C, fl, mm, R)) hQ hx hb hr hlk hK hP hD hS (⟨by unfold fa; rw [show fo n0 (j, L).2 = false from hfo]; rfl, by rw [ep]; exact ⟨Fr, bl, hTA, hTN, hTH, hKn, eL⟩⟩) d_hh_fill_38
  · refine lv_icmp_lt (tgt := 37) hx hb d_hh_fill_15 (by decide) (fun z9 => absurd z9 h1b) (fun _ => ?_)
    refine lv_iload hx hb d_hh_fill_18 (lv_at hl 5 rfl) ?_
    refine lv_sipush (v := 400) hx hb d_hh_fill_20 (by decide) ?_
    refine lv_icmp_gt (tgt := 37) hx hb d_hh_fill_23 (by decide) (fun _ => ?_) (fun z9 => absurd h1 z9)
    have hfo : fo n0 L = false := decide_eq_false (fun z9 => by omega)
    have ep : fp mv f0 s0 n0 (j, L) = (j, L) := by unfold fp; rw [hfo]; rfl
    refine lv_iconst (v := (-1)) hx hb d_hh_fill_37 (by decide) ?_
    refine W.widen (k := mcT j (fp mv f0 s0 n0 (j, L)).1) (n := msT j (fp mv f0 s0 n0 (j, L)).1) (Nat.zero_le _) (Nat.zero_le _) ?_
    have hP : va_P D cls ([(h, .inr (1, [.ref r])), (r, .inl (cT, 3, .inr (.inr (.inr (.inr ft)))))] ++ (tw cI a mv (fp mv f0 s0 n0 (j, L)).1 (qk, qv, qb, qf, qh, qc, K, V, P, N, G, C, fl, mm, R))) H := by rw [ep]; exact hP
    have hD : va_D A ([(h, .inr (1, [.ref r])), (r, .inl (cT, 3, .inr (.inr (.inr (.inr ft)))))] ++ (tw cI a mv (fp mv f0 s0 n0 (j, L)).1 (qk, qv, qb, qf, qh, qc, K, V, P, N, G, C, fl, mm, R))) := by rw [ep]; exact hD
    exact cg_iret (u := (qk, qv, qb, qf, qh, qc, K, V, P, N, G, C, fl, mm, R)) hQ hx hb hr hlk hK hP hD hS (⟨by unfold fa; rw [show fo n0 (j, L).2 = false from hfo]; rfl, by rw [ep]; exact ⟨Fr, bl, hTA, hTN, hTH, hKn, eL⟩⟩) d_hh_fill_38
  · refine lv_icmp_lt (tgt := 37) hx hb d_hh_fill_15 (by decide) (fun z9 => absurd z9 (by rw [h3]; exact nI_nlt h1 (by omega))) (fun _ => ?_)
    refine lv_iload hx hb d_hh_fill_18 (lv_at hl 5 rfl) ?_
    refine lv_sipush (v := 400) hx hb d_hh_fill_20 (by decide) ?_
    refine lv_icmp_gt (tgt := 37) hx hb d_hh_fill_23 (by decide) (fun z9 => absurd z9 (by rw [h3]; exact nI_nlt h2 (by decide))) (fun _ => ?_)
    refine lv_aload hx hb d_hh_fill_26 (lv_at hl 0 rfl) ?_
    refine va_get (D := D) (ci := 0) (v := .int (nI R.length)) (C := R_tb) (T := F_tb) (N := 10) hx hb hts i_tb hown hK hP 2 rfl rfl 1 (by decide) (hts _ kf_hh_51) (fun _ h9 => h9) rfl d_hh_fill_28 ?_
    refine lv_sipush (v := 1000) hx hb d_hh_fill_31 (by decide) ?_
    by_cases h5 : R.length ≤ 1000
    · refine lv_icmp_le (tgt := 39) hx hb d_hh_fill_34 (by decide) (fun _ => ?_) (fun z9 => absurd (nI_le (a := R.length) (b := 1000) h5 (by decide)) z9)
      refine lv_iconst (v := 0) hx hb d_hh_fill_39 (by decide) ?_
      refine lv_istore (lv' := [(6, .int 0), (5, .ref a), (0, .ref h), (1, .int (nI km)), (2, .int f0), (3, .int s0), (4, .int n0)]) hx hb d_hh_fill_40 hl (by decide) rfl (fun ls hl => ?_)
      have hfo : fo n0 L = true := decide_eq_true ⟨by omega, by omega, by omega⟩
      have ep : fj mv f0 s0 (j, L) 0 c0 = fp mv f0 s0 n0 (j, L) := by unfold fp; rw [show fo n0 (j, L).2 = true from hfo, h4]; rfl
      have hL : TL j L (qk, qv, qb, qf, qh, qc, K, V, P, N, G, C, fl, mm, R) := ⟨Fr, bl, hTA, hTN, hTH, hKn, eL⟩
      have loop : ∀ (cn i jc : Nat) (Lc : List (Int32 × Int32)) (uc : TB), i + cn = c0 → TL jc Lc uc → j ≤ jc → fj mv f0 s0 (jc, Lc) i cn = fp mv f0 s0 n0 (j, L) → Lc.length + cn ≤ 1400 → ∀ (H : Heap) (locs : List Loc), va_P D cls ([(h, .inr (1, [.ref r])), (r, .inl (cT, 3, .inr (.inr (.inr (.inr ft)))))] ++ (tw cI a mv jc uc)) H → va_D A ([(h, .inr (1, [.ref r])), (r, .inl (cT, 3, .inr (.inr (.inr (.inr ft)))))] ++ (tw cI a mv jc uc)) → va_S A s.heap H locs → ∀ ls : Array Slot, lv_has ls 7 [(0, .ref h), (1, .int (nI km)), (2, .int f0), (3, .int s0), (4, .int n0), (5, .ref a), (6, .int (nI i))] → W p l e (rmL 5 (mcT j (fp mv f0 s0 n0 (j, L)).1) (msT j (fp mv f0 s0 n0 (j, L)).1)) s m args below meth c H locs (mcT j jc) (msT j jc) Q (F0 m 42 ls []) := by
        clear hP hD hS hL hTA hTN hTH hKn eL hLl hn hRl
        intro cn
        induction cn with
        | zero =>
          intro i jc Lc uc hi hT hjc hst hlc H locs hP hD hS ls hl
          have e1 : jc = (fp mv f0 s0 n0 (j, L)).1 := by rw [← hst]; rfl
          have e2 : Lc = (fp mv f0 s0 n0 (j, L)).2 := by rw [← hst]; rfl
          subst e1
          subst e2
          refine lv_iload hx hb d_hh_fill_42 (lv_at hl 6 rfl) ?_
          refine lv_iload hx hb d_hh_fill_44 (lv_at hl 4 rfl) ?_
          refine lv_icmp_ge (tgt := 69) hx hb d_hh_fill_46 (by decide) (fun _ => ?_) (fun z9 => absurd (by rw [h3]; exact nI_le (by omega) (by omega)) z9)
          obtain ⟨qk, qv, qb, qf, qh, qc, K, V, P, N, G, C, fl, mm, R⟩ := uc
          obtain ⟨Fr, bl, hTA, hTN, hTH, hKn, eL⟩ := hT
          have hTA : TA (2 ^ (4 + ((fp mv f0 s0 n0 (j, L)).1))) ((fp mv f0 s0 n0 (j, L)).1) mm R Fr := hTA
          have hTN : TN P N R := hTN
          have hTH : TH (2 ^ (4 + ((fp mv f0 s0 n0 (j, L)).1))) K G C fl R Fr bl := hTH
          have hKn : (R.map K).Nodup := hKn
          have eL : ((fp mv f0 s0 n0 (j, L)).2) = kv K V R := eL
          have hLl : ((fp mv f0 s0 n0 (j, L)).2).length = R.length := by rw [eL]; exact List.length_map ..
          have hn : 2 ^ (4 + ((fp mv f0 s0 n0 (j, L)).1)) < 2 ^ 31 := (ta_len hTA).2.2
          have hRl : R.length < 2 ^ 31 := (ta_len hTA).2.1
          have hP : va_P D cls ([(h, .inr (1, [.ref r])), (r, .inl (cT, 3, .inr (.inr (.inr (.inr ft)))))] ++ (tx cI a (mvI mv) (nI R.length) qk qv qb qf qh qc (2 ^ (4 + (fp mv f0 s0 n0 (j, L)).1)) K V P N G C fl (nI mm))) H := hP
          have hD : va_D A ([(h, .inr (1, [.ref r])), (r, .inl (cT, 3, .inr (.inr (.inr (.inr ft)))))] ++ (tx cI a (mvI mv) (nI R.length) qk qv qb qf qh qc (2 ^ (4 + (fp mv f0 s0 n0 (j, L)).1)) K V P N G C fl (nI mm))) := hD
          refine lv_aload hx hb d_hh_fill_69 (lv_at hl 5 rfl) ?_
          refine va_get (D := D) (ci := 0) (v := .int (nI R.length)) (C := R_tb) (T := F_tb) (N := 10) hx hb hts i_tb hown hK hP 2 rfl rfl 1 (by decide) (hts _ kf_hh_51) (fun _ h9 => h9) rfl d_hh_fill_71 ?_
          exact cg_iret (u := (qk, qv, qb, qf, qh, qc, K, V, P, N, G, C, fl, mm, R)) hQ hx hb hr hlk hK hP hD hS (⟨by unfold fa; rw [show fo n0 (j, L).2 = true from hfo, ← hLl]; rfl, ⟨Fr, bl, hTA, hTN, hTH, hKn, eL⟩⟩) d_hh_fill_74
        | succ cn ih =>
          intro i jc Lc uc hi hT hjc hst hlc H locs hP hD hS ls hl
          have hstep : fj mv f0 s0 (njs jc (f0 + (nI i * s0)) Lc, st mv (f0 + (nI i * s0)) (nI i) Lc) (i + 1) cn = fp mv f0 s0 n0 (j, L) := hst
          have hj1 := njs_le jc (f0 + (nI i * s0)) Lc
          have hj2 : njs jc (f0 + (nI i * s0)) Lc ≤ (fp mv f0 s0 n0 (j, L)).1 := by rw [← hstep]; exact fj_le (njs jc (f0 + (nI i * s0)) Lc, st mv (f0 + (nI i * s0)) (nI i) Lc) (i + 1)
          have hsl := st_len (mv := mv) (k := (f0 + (nI i * s0))) (v := nI i) (L := Lc)
          refine lv_iload hx hb d_hh_fill_42 (lv_at hl 6 rfl) ?_
          refine lv_iload hx hb d_hh_fill_44 (lv_at hl 4 rfl) ?_
          refine lv_icmp_ge (tgt := 69) hx hb d_hh_fill_46 (by decide) (fun z9 => absurd z9 (by rw [h3]; exact nI_ge (by omega) (by omega))) (fun _ => ?_)
          refine lv_aload hx hb d_hh_fill_49 (lv_at hl 5 rfl) ?_
          refine lv_iload_n hx hb d_hh_fill_51 rfl (lv_at hl 2 rfl) ?_
          refine lv_iload hx hb d_hh_fill_52 (lv_at hl 6 rfl) ?_
          refine lv_iload_n hx hb d_hh_fill_54 rfl (lv_at hl 3 rfl) ?_
          refine lv_imul hx hb d_hh_fill_55 ?_
          refine lv_iadd hx hb d_hh_fill_56 ?_
          refine lv_iload hx hb d_hh_fill_57 (lv_at hl 6 rfl) ?_
          refine cg_V (hn := 2) (As := [.int (f0 + ((nI i) * s0)), .int (nI i)]) (rest := []) (wr := [(h, .inr (1, [.ref r])), (r, .inl (cT, 3, .inr (.inr (.inr (.inr ft)))))]) (q0 := 0) (ci := 0) hx hb hml hown hts (c_tb_store l D cI cT cP a mv jc Lc uc hT (f0 + (nI i * s0)) (nI i) (by omega)) km_hh_24 ki_tb_store ks_tb_store kn_tb kc_tb_store (by decide +kernel) rfl ⟨Nat.le_of_ble_eq_true rfl, Nat.le_of_ble_eq_true rfl⟩ hK hP hD hS hA [2, 3, 4, 5, 6, 7, 8] [0, 1] rfl (by decide) rfl (by decide) (by decide) rfl rfl hl.1 rfl (Nat.le_of_ble_eq_true rfl) d_hh_fill_59 ⟨by show _ ≤ mcT j (fp mv f0 s0 n0 (j, L)).1; rw [mcT_add hjc hj1]; exact mcT_le hj2, by show _ ≤ msT j (fp mv f0 s0 n0 (j, L)).1; rw [msT_add hjc hj1]; exact msT_le hj2⟩ (fun v u H locs hpost hP hD hS => ?_)
          obtain ⟨e9, hT3⟩ := hpost
          subst e9
          refine W.eq (g2 := F0 m 62 ls [.long (an (lk (f0 + (nI i * s0)) Lc))]) rfl ?_
          have hP : va_P D cls ([(h, .inr (1, [.ref r])), (r, .inl (cT, 3, .inr (.inr (.inr (.inr ft)))))] ++ (tw cI a mv (njs jc (f0 + (nI i * s0)) Lc) u)) H := hP
          have hD : va_D A ([(h, .inr (1, [.ref r])), (r, .inl (cT, 3, .inr (.inr (.inr (.inr ft)))))] ++ (tw cI a mv (njs jc (f0 + (nI i * s0)) Lc) u)) := hD
          refine W.widen (k := mcT j (njs jc (f0 + (nI i * s0)) Lc)) (n := msT j (njs jc (f0 + (nI i * s0)) Lc)) (Nat.le_of_eq (mcT_add hjc hj1)) (Nat.le_of_eq (msT_add hjc hj1)) ?_
          refine lv_pop2_2 hx hb d_hh_fill_62 rfl ?_
          refine lv_iinc (v := nI (i + 1)) (lv' := [(6, .int (nI (i + 1))), (0, .ref h), (1, .int (nI km)), (2, .int f0), (3, .int s0), (4, .int n0), (5, .ref a)]) hx hb d_hh_fill_63 hl (k := 6) rfl (inc_n i) (by decide) rfl (fun ls hl => ?_)
          refine lv_goto (tgt := 42) hx hb d_hh_fill_66 (by decide) ?_
          exact ih (i + 1) _ _ u (by omega) hT3 (Nat.le_trans hjc hj1) hstep (by omega) _ _ hP hD hS ls (lv_sub hl [1, 2, 3, 4, 5, 6, 0] rfl)
      refine W.widen (k := mcT j j) (n := msT j j) (Nat.zero_le _) (Nat.zero_le _) ?_
      exact loop c0 0 j L (qk, qv, qb, qf, qh, qc, K, V, P, N, G, C, fl, mm, R) (by omega) hL (Nat.le_refl _) ep (by omega) _ _ hP hD hS ls (lv_sub hl [2, 3, 4, 5, 6, 1, 0] rfl)
    · refine lv_icmp_le (tgt := 39) hx hb d_hh_fill_34 (by decide) (fun z9 => absurd z9 (fun z9 => h5 ((nI_leI (a := R.length) (b := 1000) hRl (by decide)).mp z9))) (fun _ => ?_)
      have hfo : fo n0 L = false := decide_eq_false (fun z9 => by omega)
      have ep : fp mv f0 s0 n0 (j, L) = (j, L) := by unfold fp; rw [hfo]; rfl
      refine lv_iconst (v := (-1)) hx hb d_hh_fill_37 (by decide) ?_
      refine W.widen (k := mcT j (fp mv f0 s0 n0 (j, L)).1) (n := msT j (fp mv f0 s0 n0 (j, L)).1) (Nat.zero_le _) (Nat.zero_le _) ?_
      have hP : va_P D cls ([(h, .inr (1, [.ref r])), (r, .inl (cT, 3, .inr (.inr (.inr (.inr ft)))))] ++ (tw cI a mv (fp mv f0 s0 n0 (j, L)).1 (qk, qv, qb, qf, qh, qc, K, V, P, N, G, C, fl, mm, R))) H := by rw [ep]; exact hP
      have hD : va_D A ([(h, .inr (1, [.ref r])), (r, .inl (cT, 3, .inr (.inr (.inr (.inr ft)))))] ++ (tw cI a mv (fp mv f0 s0 n0 (j, L)).1 (qk, qv, qb, qf, qh, qc, K, V, P, N, G, C, fl, mm, R))) := by rw [ep]; exact hD
      exact cg_iret (u := (qk, qv, qb, qf, qh, qc, K, V, P, N, G, C, fl, mm, R)) hQ hx hb hr hlk hK hP hD hS (⟨by unfold fa; rw [show fo n0 (j, L).2 = false from hfo]; rfl, by rw [ep]; exact ⟨Fr, bl, hTA, hTN, hTH, hKn, eL⟩⟩) d_hh_fill_38
set_option maxRecDepth 100000 in
set_option maxHeartbeats 4000000 in
theorem c_hh_fill_x (l : Launch) (D : va_G) (cI cT cP : ClassId) (h r : Nat) (q : Int32) (hq : bad q) (f0 s0 n0 : Int32) : Cg l y_hh_fill b_hh_fill 7 (some .int) 5 0 0 D (ty3 cI cT cP) [.ref h, .int q, .int f0, .int s0, .int n0] ([(h, .inr (1, [.ref r]))]) (fun (v : Option Value) (u : Unit) => v = some (.int (-1))) (fun u => [(h, .inr (1, [.ref r]))]) := by
  refine cg_enter rfl (Nat.le_of_ble_eq_true rfl) ?_
  intro p e s m below meth c args hx hb hr hlk hml hown hin hts A hA hK hP hD hS ls hl Q hQ
  have hl : lv_has ls 7 [(0, .ref h), (1, .int q), (2, .int f0), (3, .int s0), (4, .int n0)] := hl
  have hP : va_P D cls ([(h, .inr (1, [.ref r]))]) s.heap := hP
  have hD : va_D A ([(h, .inr (1, [.ref r]))]) := hD
  refine lv_aload_n hx hb d_hh_fill_0 rfl (lv_at hl 0 rfl) ?_
  refine lv_iload_n hx hb d_hh_fill_1 rfl (lv_at hl 1 rfl) ?_
  refine cg_V (hn := 1) (As := [.int q]) (rest := []) (wr := []) (q0 := 0) (ci := 1) hx hb hml hown hts (c_hh_tableOf_x l D cI cT cP h r q hq) km_hh_18 ki_hh_tableOf ks_hh_tableOf kn_hh kc_hh_tableOf (by decide +kernel) rfl ⟨Nat.le_of_ble_eq_true rfl, Nat.le_of_ble_eq_true rfl⟩ hK hP hD hS hA [0] [] rfl (by decide) rfl (by decide) (by decide) rfl rfl hl.1 rfl (Nat.le_of_ble_eq_true rfl) d_hh_fill_2 ⟨Nat.zero_le _, Nat.zero_le _⟩ (fun v u H locs hpost hP hD hS => ?_)
  subst hpost
  refine W.eq (g2 := F0 m 5 ls [.null]) rfl ?_
  have hP : va_P D cls ([(h, .inr (1, [.ref r]))]) H := hP
  have hD : va_D A ([(h, .inr (1, [.ref r]))]) := hD
  refine lv_astoreN (lv' := [(5, .null), (0, .ref h), (1, .int q), (2, .int f0), (3, .int s0), (4, .int n0)]) hx hb d_hh_fill_5 hl (by decide) rfl (fun ls hl => ?_)
  refine lv_aloadN hx hb d_hh_fill_7 (lv_at hl 0 rfl) ?_
  refine lv_ifnullN (tgt := 37) hx hb d_hh_fill_9 (by decide) ?_
  refine lv_iconst (v := (-1)) hx hb d_hh_fill_37 (by decide) ?_
  exact cg_iret (u := ()) hQ hx hb hr hlk hK hP hD hS rfl d_hh_fill_38
set_option maxRecDepth 100000 in
set_option maxHeartbeats 4000000 in
/-- same, two maps -/
theorem c_hh_same (l : Launch) (D : va_G) (cI cT cP : ClassId) (h r : Nat) (ft : Nat → Option Nat) (k1 : Nat) (hk1 : k1 < 3) (a : Nat) (hf1 : ft k1 = some a) (k2 : Nat) (hk2 : k2 < 3) (a2 : Nat) (hf2 : ft k2 = some a2) (mv : Bool) (j : Nat) (L : List (Int32 × Int32)) (u0 : TB) (hL : TL j L u0) (mv2 : Bool) (j2 : Nat) (L2 : List (Int32 × Int32)) (u2 : TB) (hL2 : TL j2 L2 u2) : Cg l y_hh_same b_hh_same 5 (some .boolean) 3 0 0 D (ty3 cI cT cP) [.ref h, .int (nI k1), .int (nI k2)] ([(h, .inr (1, [.ref r])), (r, .inl (cT, 3, .inr (.inr (.inr (.inr ft)))))] ++ (tw cI a mv j u0) ++ (tw cI a2 mv2 j2 u2)) (fun (v : Option Value) (u : Unit) => v = some (.int (zI (mt L L2)))) (fun u => [(h, .inr (1, [.ref r])), (r, .inl (cT, 3, .inr (.inr (.inr (.inr ft)))))] ++ (tw cI a mv j u0) ++ (tw cI a2 mv2 j2 u2)) := by
  refine cg_enter rfl (Nat.le_of_ble_eq_true rfl) ?_
  intro p e s m below meth c args hx hb hr hlk hml hown hin hts A hA hK hP hD hS ls hl Q hQ
  have hl : lv_has ls 5 [(0, .ref h), (1, .int (nI k1)), (2, .int (nI k2))] := hl
  have hP : va_P D cls ([(h, .inr (1, [.ref r])), (r, .inl (cT, 3, .inr (.inr (.inr (.inr ft)))))] ++ (tw cI a mv j u0) ++ (tw cI a2 mv2 j2 u2)) s.heap := hP
  have hD : va_D A ([(h, .inr (1, [.ref r])), (r, .inl (cT, 3, .inr (.inr (.inr (.inr ft)))))] ++ (tw cI a mv j u0) ++ (tw cI a2 mv2 j2 u2)) := hD
  refine lv_aload_n hx hb d_hh_same_0 rfl (lv_at hl 0 rfl) ?_
  refine lv_iload_n hx hb d_hh_same_1 rfl (lv_at hl 1 rfl) ?_
  refine cg_V (hn := 1) (As := [.int (nI k1)]) (rest := []) (wr := (tw cI a mv j u0) ++ (tw cI a2 mv2 j2 u2)) (q0 := 0) (ci := 1) hx hb hml hown hts (c_hh_tableOf l D cI cT cP h r ft k1 hk1 a hf1) km_hh_18 ki_hh_tableOf ks_hh_tableOf kn_hh kc_hh_tableOf (by decide +kernel) rfl ⟨Nat.le_of_ble_eq_true rfl, Nat.le_of_ble_eq_true rfl⟩ hK hP hD hS hA [0, 1] [2, 3, 4, 5, 6, 7, 8, 9, 10, 11, 12, 13, 14, 15] rfl (by decide) rfl (by decide) (by decide) rfl rfl hl.1 rfl (Nat.le_of_ble_eq_true rfl) d_hh_same_2 ⟨Nat.zero_le _, Nat.zero_le _⟩ (fun v u H locs hpost hP hD hS => ?_)
  subst hpost
  refine W.eq (g2 := F0 m 5 ls [.ref a]) rfl ?_
  have hP : va_P D cls ((tw cI a mv j u0) ++ (tw cI a2 mv2 j2 u2) ++ [(h, .inr (1, [.ref r])), (r, .inl (cT, 3, .inr (.inr (.inr (.inr ft)))))]) H := hP
  have hD : va_D A ((tw cI a mv j u0) ++ (tw cI a2 mv2 j2 u2) ++ [(h, .inr (1, [.ref r])), (r, .inl (cT, 3, .inr (.inr (.inr (.inr ft)))))]) := hD
  have hP : va_P D cls ([(h, .inr (1, [.ref r])), (r, .inl (cT, 3, .inr (.inr (.inr (.inr ft)))))] ++ (tw cI a mv j u0) ++ (tw cI a2 mv2 j2 u2)) H := hP.sub [14, 15, 0, 1, 2, 3, 4, 5, 6, 7, 8, 9, 10, 11, 12, 13] rfl
  have hD : va_D A ([(h, .inr (1, [.ref r])), (r, .inl (cT, 3, .inr (.inr (.inr (.inr ft)))))] ++ (tw cI a mv j u0) ++ (tw cI a2 mv2 j2 u2)) := hD.sub [14, 15, 0, 1, 2, 3, 4, 5, 6, 7, 8, 9, 10, 11, 12, 13] (by decide) rfl
  refine lv_astore_n (lv' := [(3, .ref a), (0, .ref h), (1, .int (nI k1)), (2, .int (nI k2))]) hx hb d_hh_same_5 rfl hl (by decide) rfl (fun ls hl => ?_)
  refine lv_aload_n hx hb d_hh_same_6 rfl (lv_at hl 1 rfl) ?_
  refine lv_iload_n hx hb d_hh_same_7 rfl (lv_at hl 3 rfl) ?_
  refine cg_V (hn := 1) (As := [.int (nI k2)]) (rest := []) (wr := (tw cI a mv j u0) ++ (tw cI a2 mv2 j2 u2)) (q0 := 0) (ci := 1) hx hb hml hown hts (c_hh_tableOf l D cI cT cP h r ft k2 hk2 a2 hf2) km_hh_18 ki_hh_tableOf ks_hh_tableOf kn_hh kc_hh_tableOf (by decide +kernel) rfl ⟨Nat.le_of_ble_eq_true rfl, Nat.le_of_ble_eq_true rfl⟩ hK hP hD hS hA [0, 1] [2, 3, 4, 5, 6, 7, 8, 9, 10, 11, 12, 13, 14, 15] rfl (by decide) rfl (by decide) (by decide) rfl rfl hl.1 rfl (Nat.le_of_ble_eq_true rfl) d_hh_same_8 ⟨Nat.zero_le _, Nat.zero_le _⟩ (fun v u H locs hpost hP hD hS => ?_)
  subst hpost
  refine W.eq (g2 := F0 m 11 ls [.ref a2]) rfl ?_
  have hP : va_P D cls ((tw cI a mv j u0) ++ (tw cI a2 mv2 j2 u2) ++ [(h, .inr (1, [.ref r])), (r, .inl (cT, 3, .inr (.inr (.inr (.inr ft)))))]) H := hP
  have hD : va_D A ((tw cI a mv j u0) ++ (tw cI a2 mv2 j2 u2) ++ [(h, .inr (1, [.ref r])), (r, .inl (cT, 3, .inr (.inr (.inr (.inr ft)))))]) := hD
  have hP : va_P D cls ([(h, .inr (1, [.ref r])), (r, .inl (cT, 3, .inr (.inr (.inr (.inr ft)))))] ++ (tw cI a mv j u0) ++ (tw cI a2 mv2 j2 u2)) H := hP.sub [14, 15, 0, 1, 2, 3, 4, 5, 6, 7, 8, 9, 10, 11, 12, 13] rfl
  have hD : va_D A ([(h, .inr (1, [.ref r])), (r, .inl (cT, 3, .inr (.inr (.inr (.inr ft)))))] ++ (tw cI a mv j u0) ++ (tw cI a2 mv2 j2 u2)) := hD.sub [14, 15, 0, 1, 2, 3, 4, 5, 6, 7, 8, 9, 10, 11, 12, 13] (by decide) rfl
  refine lv_astore (lv' := [(4, .ref a2), (3, .ref a), (0, .ref h), (1, .int (nI k1)), (2, .int (nI k2))]) hx hb d_hh_same_11 hl (by decide) rfl (fun ls hl => ?_)
  refine lv_aload_n hx hb d_hh_same_13 rfl (lv_at hl 1 rfl) ?_
  refine lv_ifnull hx hb d_hh_same_14 ?_
  refine lv_aload hx hb d_hh_same_17 (lv_at hl 0 rfl) ?_
  refine lv_ifnull hx hb d_hh_same_19 ?_
  refine lv_aload_n hx hb d_hh_same_22 rfl (lv_at hl 1 rfl) ?_
  refine lv_aload hx hb d_hh_same_23 (lv_at hl 0 rfl) ?_
  refine cg_V (hn := 1) (As := [.ref a2]) (rest := []) (wr := [(h, .inr (1, [.ref r])), (r, .inl (cT, 3, .inr (.inr (.inr (.inr ft)))))]) (q0 := 0) (ci := 0) hx hb hml hown hts (c_tb_matches l D cI cT cP a mv j L u0 hL a2 mv2 j2 L2 u2 hL2) km_hh_89 ki_tb_matches ks_tb_matches kn_tb kc_tb_matches (by decide +kernel) rfl ⟨Nat.le_of_ble_eq_true rfl, Nat.le_of_ble_eq_true rfl⟩ hK hP hD hS hA [2, 3, 4, 5, 6, 7, 8, 9, 10, 11, 12, 13, 14, 15] [0, 1] rfl (by decide) rfl (by decide) (by decide) rfl rfl hl.1 rfl (Nat.le_of_ble_eq_true rfl) d_hh_same_25 ⟨Nat.zero_le _, Nat.zero_le _⟩ (fun v u H locs hpost hP hD hS => ?_)
  subst hpost
  refine W.eq (g2 := F0 m 28 ls [.int (zI (mt L L2))]) rfl ?_
  have hP : va_P D cls ([(h, .inr (1, [.ref r])), (r, .inl (cT, 3, .inr (.inr (.inr (.inr ft)))))] ++ (tw cI a mv j u0) ++ (tw cI a2 mv2 j2 u2)) H := hP
  have hD : va_D A ([(h, .inr (1, [.ref r])), (r, .inl (cT, 3, .inr (.inr (.inr (.inr ft)))))] ++ (tw cI a mv j u0) ++ (tw cI a2 mv2 j2 u2)) := hD
  generalize hbb : mt L L2 = bb
  cases bb with
  | false =>
    refine lv_if_eq (tgt := 35) hx hb d_hh_same_28 (by decide) (fun _ => ?_) (fun z9 => absurd rfl z9)
    refine lv_iconst (v := 0) hx hb d_hh_same_35 (by decide) ?_
    exact cg_zret (u := ()) hQ hx hb hr hlk hK hP hD hS rfl (by rw [hbb]; rfl) d_hh_same_36
  | true =>
    refine lv_if_eq (tgt := 35) hx hb d_hh_same_28 (by decide) (fun z9 => absurd z9 (by decide)) (fun _ => ?_)
    refine lv_iconst (v := 1) hx hb d_hh_same_31 (by decide) ?_
    refine lv_goto (tgt := 36) hx hb d_hh_same_32 (by decide) ?_
    exact cg_zret (u := ()) hQ hx hb hr hlk hK hP hD hS rfl (by rw [hbb]; rfl) d_hh_same_36
set_option maxRecDepth 100000 in
set_option maxHeartbeats 4000000 in
/-- same, one map twice -/
theorem c_hh_same_s (l : Launch) (D : va_G) (cI cT cP : ClassId) (h r : Nat) (ft : Nat → Option Nat) (km : Nat) (hkm : km < 3) (a : Nat) (hft : ft km = some a) (mv : Bool) (j : Nat) (L : List (Int32 × Int32)) (u0 : TB) (hL : TL j L u0) : Cg l y_hh_same b_hh_same 5 (some .boolean) 3 0 0 D (ty3 cI cT cP) [.ref h, .int (nI km), .int (nI km)] ([(h, .inr (1, [.ref r])), (r, .inl (cT, 3, .inr (.inr (.inr (.inr ft)))))] ++ (tw cI a mv j u0)) (fun (v : Option Value) (u : Unit) => v = some (.int 1)) (fun u => [(h, .inr (1, [.ref r])), (r, .inl (cT, 3, .inr (.inr (.inr (.inr ft)))))] ++ (tw cI a mv j u0)) := by
  refine cg_enter rfl (Nat.le_of_ble_eq_true rfl) ?_
  intro p e s m below meth c args hx hb hr hlk hml hown hin hts A hA hK hP hD hS ls hl Q hQ
  have hl : lv_has ls 5 [(0, .ref h), (1, .int (nI km)), (2, .int (nI km))] := hl
  have hP : va_P D cls ([(h, .inr (1, [.ref r])), (r, .inl (cT, 3, .inr (.inr (.inr (.inr ft)))))] ++ (tw cI a mv j u0)) s.heap := hP
  have hD : va_D A ([(h, .inr (1, [.ref r])), (r, .inl (cT, 3, .inr (.inr (.inr (.inr ft)))))] ++ (tw cI a mv j u0)) := hD
  refine lv_aload_n hx hb d_hh_same_0 rfl (lv_at hl 0 rfl) ?_
  refine lv_iload_n hx hb d_hh_same_1 rfl (lv_at hl 1 rfl) ?_
  refine cg_V (hn := 1) (As := [.int (nI km)]) (rest := []) (wr := tw cI a mv j u0) (q0 := 0) (ci := 1) hx hb hml hown hts (c_hh_tableOf l D cI cT cP h r ft km hkm a hft) km_hh_18 ki_hh_tableOf ks_hh_tableOf kn_hh kc_hh_tableOf (by decide +kernel) rfl ⟨Nat.le_of_ble_eq_true rfl, Nat.le_of_ble_eq_true rfl⟩ hK hP hD hS hA [0, 1] [2, 3, 4, 5, 6, 7, 8] rfl (by decide) rfl (by decide) (by decide) rfl rfl hl.1 rfl (Nat.le_of_ble_eq_true rfl) d_hh_same_2 ⟨Nat.zero_le _, Nat.zero_le _⟩ (fun v u H locs hpost hP hD hS => ?_)
  subst hpost
  refine W.eq (g2 := F0 m 5 ls [.ref a]) rfl ?_
  have hP : va_P D cls ((tw cI a mv j u0) ++ [(h, .inr (1, [.ref r])), (r, .inl (cT, 3, .inr (.inr (.inr (.inr ft)))))]) H := hP
  have hD : va_D A ((tw cI a mv j u0) ++ [(h, .inr (1, [.ref r])), (r, .inl (cT, 3, .inr (.inr (.inr (.inr ft)))))]) := hD
  have hP : va_P D cls ([(h, .inr (1, [.ref r])), (r, .inl (cT, 3, .inr (.inr (.inr (.inr ft)))))] ++ (tw cI a mv j u0)) H := hP.sub [7, 8, 0, 1, 2, 3, 4, 5, 6] rfl
  have hD : va_D A ([(h, .inr (1, [.ref r])), (r, .inl (cT, 3, .inr (.inr (.inr (.inr ft)))))] ++ (tw cI a mv j u0)) := hD.sub [7, 8, 0, 1, 2, 3, 4, 5, 6] (by decide) rfl
  refine lv_astore_n (lv' := [(3, .ref a), (0, .ref h), (1, .int (nI km)), (2, .int (nI km))]) hx hb d_hh_same_5 rfl hl (by decide) rfl (fun ls hl => ?_)
  refine lv_aload_n hx hb d_hh_same_6 rfl (lv_at hl 1 rfl) ?_
  refine lv_iload_n hx hb d_hh_same_7 rfl (lv_at hl 3 rfl) ?_
  refine cg_V (hn := 1) (As := [.int (nI km)]) (rest := []) (wr := tw cI a mv j u0) (q0 := 0) (ci := 1) hx hb hml hown hts (c_hh_tableOf l D cI cT cP h r ft km hkm a hft) km_hh_18 ki_hh_tableOf ks_hh_tableOf kn_hh kc_hh_tableOf (by decide +kernel) rfl ⟨Nat.le_of_ble_eq_true rfl, Nat.le_of_ble_eq_true rfl⟩ hK hP hD hS hA [0, 1] [2, 3, 4, 5, 6, 7, 8] rfl (by decide) rfl (by decide) (by decide) rfl rfl hl.1 rfl (Nat.le_of_ble_eq_true rfl) d_hh_same_8 ⟨Nat.zero_le _, Nat.zero_le _⟩ (fun v u H locs hpost hP hD hS => ?_)
  subst hpost
  refine W.eq (g2 := F0 m 11 ls [.ref a]) rfl ?_
  have hP : va_P D cls ((tw cI a mv j u0) ++ [(h, .inr (1, [.ref r])), (r, .inl (cT, 3, .inr (.inr (.inr (.inr ft)))))]) H := hP
  have hD : va_D A ((tw cI a mv j u0) ++ [(h, .inr (1, [.ref r])), (r, .inl (cT, 3, .inr (.inr (.inr (.inr ft)))))]) := hD
  have hP : va_P D cls ([(h, .inr (1, [.ref r])), (r, .inl (cT, 3, .inr (.inr (.inr (.inr ft)))))] ++ (tw cI a mv j u0)) H := hP.sub [7, 8, 0, 1, 2, 3, 4, 5, 6] rfl
  have hD : va_D A ([(h, .inr (1, [.ref r])), (r, .inl (cT, 3, .inr (.inr (.inr (.inr ft)))))] ++ (tw cI a mv j u0)) := hD.sub [7, 8, 0, 1, 2, 3, 4, 5, 6] (by decide) rfl
  refine lv_astore (lv' := [(4, .ref a), (3, .ref a), (0, .ref h), (1, .int (nI km)), (2, .int (nI km))]) hx hb d_hh_same_11 hl (by decide) rfl (fun ls hl => ?_)
  refine lv_aload_n hx hb d_hh_same_13 rfl (lv_at hl 1 rfl) ?_
  refine lv_ifnull hx hb d_hh_same_14 ?_
  refine lv_aload hx hb d_hh_same_17 (lv_at hl 0 rfl) ?_
  refine lv_ifnull hx hb d_hh_same_19 ?_
  refine lv_aload_n hx hb d_hh_same_22 rfl (lv_at hl 1 rfl) ?_
  refine lv_aload hx hb d_hh_same_23 (lv_at hl 0 rfl) ?_
  refine cg_V (hn := 1) (As := [.ref a]) (rest := []) (wr := [(h, .inr (1, [.ref r])), (r, .inl (cT, 3, .inr (.inr (.inr (.inr ft)))))]) (q0 := 0) (ci := 0) hx hb hml hown hts (c_tb_matches_self l D cI cT cP a mv j L u0 hL) km_hh_89 ki_tb_matches ks_tb_matches kn_tb kc_tb_matches (by decide +kernel) rfl ⟨Nat.le_of_ble_eq_true rfl, Nat.le_of_ble_eq_true rfl⟩ hK hP hD hS hA [2, 3, 4, 5, 6, 7, 8] [0, 1] rfl (by decide) rfl (by decide) (by decide) rfl rfl hl.1 rfl (Nat.le_of_ble_eq_true rfl) d_hh_same_25 ⟨Nat.zero_le _, Nat.zero_le _⟩ (fun v u H locs hpost hP hD hS => ?_)
  subst hpost
  refine W.eq (g2 := F0 m 28 ls [.int 1]) rfl ?_
  have hP : va_P D cls ([(h, .inr (1, [.ref r])), (r, .inl (cT, 3, .inr (.inr (.inr (.inr ft)))))] ++ (tw cI a mv j u0)) H := hP
  have hD : va_D A ([(h, .inr (1, [.ref r])), (r, .inl (cT, 3, .inr (.inr (.inr (.inr ft)))))] ++ (tw cI a mv j u0)) := hD
  refine lv_if_eq (tgt := 35) hx hb d_hh_same_28 (by decide) (fun z9 => absurd z9 (by decide)) (fun _ => ?_)
  refine lv_iconst (v := 1) hx hb d_hh_same_31 (by decide) ?_
  refine lv_goto (tgt := 36) hx hb d_hh_same_32 (by decide) ?_
  exact cg_zret (u := ()) hQ hx hb hr hlk hK hP hD hS rfl rfl d_hh_same_36
set_option maxRecDepth 100000 in
set_option maxHeartbeats 4000000 in
/-- same, refused -/
theorem c_hh_same_x (l : Launch) (D : va_G) (cI cT cP : ClassId) (h r : Nat) (ft : Nat → Option Nat) (hft : ∀ k, k < 3 → ∃ b, ft k = some b) (q1 q2 : Int32) (hq : bad q1 ∨ bad q2) : Cg l y_hh_same b_hh_same 5 (some .boolean) 3 0 0 D (ty3 cI cT cP) [.ref h, .int q1, .int q2] ([(h, .inr (1, [.ref r])), (r, .inl (cT, 3, .inr (.inr (.inr (.inr ft)))))]) (fun (v : Option Value) (u : Unit) => v = some (.int 0)) (fun u => [(h, .inr (1, [.ref r])), (r, .inl (cT, 3, .inr (.inr (.inr (.inr ft)))))]) := by
  refine cg_enter rfl (Nat.le_of_ble_eq_true rfl) ?_
  intro p e s m below meth c args hx hb hr hlk hml hown hin hts A hA hK hP hD hS ls hl Q hQ
  have hl : lv_has ls 5 [(0, .ref h), (1, .int q1), (2, .int q2)] := hl
  have hP : va_P D cls ([(h, .inr (1, [.ref r])), (r, .inl (cT, 3, .inr (.inr (.inr (.inr ft)))))]) s.heap := hP
  have hD : va_D A ([(h, .inr (1, [.ref r])), (r, .inl (cT, 3, .inr (.inr (.inr (.inr ft)))))]) := hD
  rcases bad_or q1 with b1 | ⟨k1, hk1, e1⟩
  · rcases bad_or q2 with b2 | ⟨k2, hk2, e2⟩
    · refine lv_aload_n hx hb d_hh_same_0 rfl (lv_at hl 0 rfl) ?_
      refine lv_iload_n hx hb d_hh_same_1 rfl (lv_at hl 1 rfl) ?_
      refine cg_V (hn := 1) (As := [.int q1]) (rest := []) (wr := [(r, .inl (cT, 3, .inr (.inr (.inr (.inr ft)))))]) (q0 := 0) (ci := 1) hx hb hml hown hts (c_hh_tableOf_x l D cI cT cP h r q1 b1) km_hh_18 ki_hh_tableOf ks_hh_tableOf kn_hh kc_hh_tableOf (by decide +kernel) rfl ⟨Nat.le_of_ble_eq_true rfl, Nat.le_of_ble_eq_true rfl⟩ hK hP hD hS hA [0] [1] rfl (by decide) rfl (by decide) (by decide) rfl rfl hl.1 rfl (Nat.le_of_ble_eq_true rfl) d_hh_same_2 ⟨Nat.zero_le _, Nat.zero_le _⟩ (fun v u H locs hpost hP hD hS => ?_)
      subst hpost
      refine W.eq (g2 := F0 m 5 ls [.null]) rfl ?_
      have hP : va_P D cls ([(r, .inl (cT, 3, .inr (.inr (.inr (.inr ft))))), (h, .inr (1, [.ref r]))]) H := hP
      have hD : va_D A ([(r, .inl (cT, 3, .inr (.inr (.inr (.inr ft))))), (h, .inr (1, [.ref r]))]) := hD
      have hP : va_P D cls ([(h, .inr (1, [.ref r])), (r, .inl (cT, 3, .inr (.inr (.inr (.inr ft)))))]) H := hP.sub [1, 0] rfl
      have hD : va_D A ([(h, .inr (1, [.ref r])), (r, .inl (cT, 3, .inr (.inr (.inr (.inr ft)))))]) := hD.sub [1, 0] (by decide) rfl
      refine lv_astore_nN (lv' := [(3, .null), (0, .ref h), (1, .int q1), (2, .int q2)]) hx hb d_hh_same_5 rfl hl (by decide) rfl (fun ls hl => ?_)
      refine lv_aload_n hx hb d_hh_same_6 rfl (lv_at hl 1 rfl) ?_
      refine lv_iload_n hx hb d_hh_same_7 rfl (lv_at hl 3 rfl) ?_
      refine cg_V (hn := 1) (As := [.int q2]) (rest := []) (wr := [(r, .inl (cT, 3, .inr (.inr (.inr (.inr ft)))))]) (q0 := 0) (ci := 1) hx hb hml hown hts (c_hh_tableOf_x l D cI cT cP h r q2 b2) km_hh_18 ki_hh_tableOf ks_hh_tableOf kn_hh kc_hh_tableOf (by decide +kernel) rfl ⟨Nat.le_of_ble_eq_true rfl, Nat.le_of_ble_eq_true rfl⟩ hK hP hD hS hA [0] [1] rfl (by decide) rfl (by decide) (by decide) rfl rfl hl.1 rfl (Nat.le_of_ble_eq_true rfl) d_hh_same_8 ⟨Nat.zero_le _, Nat.zero_le _⟩ (fun v u H locs hpost hP hD hS => ?_)
      subst hpost
      refine W.eq (g2 := F0 m 11 ls [.null]) rfl ?_
      have hP : va_P D cls ([(r, .inl (cT, 3, .inr (.inr (.inr (.inr ft))))), (h, .inr (1, [.ref r]))]) H := hP
      have hD : va_D A ([(r, .inl (cT, 3, .inr (.inr (.inr (.inr ft))))), (h, .inr (1, [.ref r]))]) := hD
      have hP : va_P D cls ([(h, .inr (1, [.ref r])), (r, .inl (cT, 3, .inr (.inr (.inr (.inr ft)))))]) H := hP.sub [1, 0] rfl
      have hD : va_D A ([(h, .inr (1, [.ref r])), (r, .inl (cT, 3, .inr (.inr (.inr (.inr ft)))))]) := hD.sub [1, 0] (by decide) rfl
      refine lv_astoreN (lv' := [(4, .null), (3, .null), (0, .ref h), (1, .int q1), (2, .int q2)]) hx hb d_hh_same_11 hl (by decide) rfl (fun ls hl => ?_)
      refine lv_aload_nN hx hb d_hh_same_13 rfl (lv_at hl 1 rfl) ?_
      refine lv_ifnullN (tgt := 35) hx hb d_hh_same_14 (by decide) ?_
      refine lv_iconst (v := 0) hx hb d_hh_same_35 (by decide) ?_
      exact cg_zret (u := ()) hQ hx hb hr hlk hK hP hD hS rfl rfl d_hh_same_36
    · obtain ⟨a2, hf2⟩ := hft k2 hk2
      subst e2
      refine lv_aload_n hx hb d_hh_same_0 rfl (lv_at hl 0 rfl) ?_
      refine lv_iload_n hx hb d_hh_same_1 rfl (lv_at hl 1 rfl) ?_
      refine cg_V (hn := 1) (As := [.int q1]) (rest := []) (wr := [(r, .inl (cT, 3, .inr (.inr (.inr (.inr ft)))))]) (q0 := 0) (ci := 1) hx hb hml hown hts (c_hh_tableOf_x l D cI cT cP h r q1 b1) km_hh_18 ki_hh_tableOf ks_hh_tableOf kn_hh kc_hh_tableOf (by decide +kernel) rfl ⟨Nat.le_of_ble_eq_true rfl, Nat.le_of_ble_eq_true rfl⟩ hK hP hD hS hA [0] [1] rfl (by decide) rfl (by decide) (by decide) rfl rfl hl.1 rfl (Nat.le_of_ble_eq_true rfl) d_hh_same_2 ⟨Nat.zero_le _, Nat.zero_le _⟩ (fun v u H locs hpost hP hD hS => ?_)
      subst hpost
      refine W.eq (g2 := F0 m 5 ls [.null]) rfl ?_
      have hP : va_P D cls ([(r, .inl (cT, 3, .inr (.inr (.inr (.inr ft))))), (h, .inr (1, [.ref r]))]) H := hP
      have hD : va_D A ([(r, .inl (cT, 3, .inr (.inr (.inr (.inr ft))))), (h, .inr (1, [.ref r]))]) := hD
      have hP : va_P D cls ([(h, .inr (1, [.ref r])), (r, .inl (cT, 3, .inr (.inr (.inr (.inr ft)))))]) H := hP.sub [1, 0] rfl
      have hD : va_D A ([(h, .inr (1, [.ref r])), (r, .inl (cT, 3, .inr (.inr (.inr (.inr ft)))))]) := hD.sub [1, 0] (by decide) rfl
      refine lv_astore_nN (lv' := [(3, .null), (0, .ref h), (1, .int q1), (2, .int (nI k2))]) hx hb d_hh_same_5 rfl hl (by decide) rfl (fun ls hl => ?_)
      refine lv_aload_n hx hb d_hh_same_6 rfl (lv_at hl 1 rfl) ?_
      refine lv_iload_n hx hb d_hh_same_7 rfl (lv_at hl 3 rfl) ?_
      refine cg_V (hn := 1) (As := [.int (nI k2)]) (rest := []) (wr := []) (q0 := 0) (ci := 1) hx hb hml hown hts (c_hh_tableOf l D cI cT cP h r ft k2 hk2 a2 hf2) km_hh_18 ki_hh_tableOf ks_hh_tableOf kn_hh kc_hh_tableOf (by decide +kernel) rfl ⟨Nat.le_of_ble_eq_true rfl, Nat.le_of_ble_eq_true rfl⟩ hK hP hD hS hA [0, 1] [] rfl (by decide) rfl (by decide) (by decide) rfl rfl hl.1 rfl (Nat.le_of_ble_eq_true rfl) d_hh_same_8 ⟨Nat.zero_le _, Nat.zero_le _⟩ (fun v u H locs hpost hP hD hS => ?_)
      subst hpost
      refine W.eq (g2 := F0 m 11 ls [.ref a2]) rfl ?_
      have hP : va_P D cls ([(h, .inr (1, [.ref r])), (r, .inl (cT, 3, .inr (.inr (.inr (.inr ft)))))]) H := hP
      have hD : va_D A ([(h, .inr (1, [.ref r])), (r, .inl (cT, 3, .inr (.inr (.inr (.inr ft)))))]) := hD
      have hP : va_P D cls ([(h, .inr (1, [.ref r])), (r, .inl (cT, 3, .inr (.inr (.inr (.inr ft)))))]) H := hP.sub [0, 1] rfl
      have hD : va_D A ([(h, .inr (1, [.ref r])), (r, .inl (cT, 3, .inr (.inr (.inr (.inr ft)))))]) := hD.sub [0, 1] (by decide) rfl
      refine lv_astore (lv' := [(4, .ref a2), (3, .null), (0, .ref h), (1, .int q1), (2, .int (nI k2))]) hx hb d_hh_same_11 hl (by decide) rfl (fun ls hl => ?_)
      refine lv_aload_nN hx hb d_hh_same_13 rfl (lv_at hl 1 rfl) ?_
      refine lv_ifnullN (tgt := 35) hx hb d_hh_same_14 (by decide) ?_
      refine lv_iconst (v := 0) hx hb d_hh_same_35 (by decide) ?_
      exact cg_zret (u := ()) hQ hx hb hr hlk hK hP hD hS rfl rfl d_hh_same_36
  · obtain ⟨a1, hf1⟩ := hft k1 hk1
    rcases bad_or q2 with b2 | ⟨k2, hk2, e2⟩
    · subst e1
      refine lv_aload_n hx hb d_hh_same_0 rfl (lv_at hl 0 rfl) ?_
      refine lv_iload_n hx hb d_hh_same_1 rfl (lv_at hl 1 rfl) ?_
      refine cg_V (hn := 1) (As := [.int (nI k1)]) (rest := []) (wr := []) (q0 := 0) (ci := 1) hx hb hml hown hts (c_hh_tableOf l D cI cT cP h r ft k1 hk1 a1 hf1) km_hh_18 ki_hh_tableOf ks_hh_tableOf kn_hh kc_hh_tableOf (by decide +kernel) rfl ⟨Nat.le_of_ble_eq_true rfl, Nat.le_of_ble_eq_true rfl⟩ hK hP hD hS hA [0, 1] [] rfl (by decide) rfl (by decide) (by decide) rfl rfl hl.1 rfl (Nat.le_of_ble_eq_true rfl) d_hh_same_2 ⟨Nat.zero_le _, Nat.zero_le _⟩ (fun v u H locs hpost hP hD hS => ?_)
      subst hpost
      refine W.eq (g2 := F0 m 5 ls [.ref a1]) rfl ?_
      have hP : va_P D cls ([(h, .inr (1, [.ref r])), (r, .inl (cT, 3, .inr (.inr (.inr (.inr ft)))))]) H := hP
      have hD : va_D A ([(h, .inr (1, [.ref r])), (r, .inl (cT, 3, .inr (.inr (.inr (.inr ft)))))]) := hD
      have hP : va_P D cls ([(h, .inr (1, [.ref r])), (r, .inl (cT, 3, .inr (.inr (.inr (.inr ft)))))]) H := hP.sub [0, 1] rfl
      have hD : va_D A ([(h, .inr (1, [.ref r])), (r, .inl (cT, 3, .inr (.inr (.inr (.inr ft)))))]) := hD.sub [0, 1] (by decide) rfl
      refine lv_astore_n (lv' := [(3, .ref a1), (0, .ref h), (1, .int (nI k1)), (2, .int q2)]) hx hb d_hh_same_5 rfl hl (by decide) rfl (fun ls hl => ?_)
      refine lv_aload_n hx hb d_hh_same_6 rfl (lv_at hl 1 rfl) ?_
      refine lv_iload_n hx hb d_hh_same_7 rfl (lv_at hl 3 rfl) ?_
      refine cg_V (hn := 1) (As := [.int q2]) (rest := []) (wr := [(r, .inl (cT, 3, .inr (.inr (.inr (.inr ft)))))]) (q0 := 0) (ci := 1) hx hb hml hown hts (c_hh_tableOf_x l D cI cT cP h r q2 b2) km_hh_18 ki_hh_tableOf ks_hh_tableOf kn_hh kc_hh_tableOf (by decide +kernel) rfl ⟨Nat.le_of_ble_eq_true rfl, Nat.le_of_ble_eq_true rfl⟩ hK hP hD hS hA [0] [1] rfl (by decide) rfl (by decide) (by decide) rfl rfl hl.1 rfl (Nat.le_of_ble_eq_true rfl) d_hh_same_8 ⟨Nat.zero_le _, Nat.zero_le _⟩ (fun v u H locs hpost hP hD hS => ?_)
      subst hpost
      refine W.eq (g2 := F0 m 11 ls [.null]) rfl ?_
      have hP : va_P D cls ([(r, .inl (cT, 3, .inr (.inr (.inr (.inr ft))))), (h, .inr (1, [.ref r]))]) H := hP
      have hD : va_D A ([(r, .inl (cT, 3, .inr (.inr (.inr (.inr ft))))), (h, .inr (1, [.ref r]))]) := hD
      have hP : va_P D cls ([(h, .inr (1, [.ref r])), (r, .inl (cT, 3, .inr (.inr (.inr (.inr ft)))))]) H := hP.sub [1, 0] rfl
      have hD : va_D A ([(h, .inr (1, [.ref r])), (r, .inl (cT, 3, .inr (.inr (.inr (.inr ft)))))]) := hD.sub [1, 0] (by decide) rfl
      refine lv_astoreN (lv' := [(4, .null), (3, .ref a1), (0, .ref h), (1, .int (nI k1)), (2, .int q2)]) hx hb d_hh_same_11 hl (by decide) rfl (fun ls hl => ?_)
      refine lv_aload_n hx hb d_hh_same_13 rfl (lv_at hl 1 rfl) ?_
      refine lv_ifnull hx hb d_hh_same_14 ?_
      refine lv_aloadN hx hb d_hh_same_17 (lv_at hl 0 rfl) ?_
      refine lv_ifnullN (tgt := 35) hx hb d_hh_same_19 (by decide) ?_
      refine lv_iconst (v := 0) hx hb d_hh_same_35 (by decide) ?_
      exact cg_zret (u := ()) hQ hx hb hr hlk hK hP hD hS rfl rfl d_hh_same_36
    · obtain ⟨a2, hf2⟩ := hft k2 hk2
      have nb : ∀ k, k < 3 → ¬ bad (nI k) := fun k hk z9 => z9.elim (nI_pos (by omega)) (nI_ge hk (by decide))
      exact absurd hq (fun z9 => z9.elim (fun z8 => nb k1 hk1 (e1 ▸ z8)) (fun z8 => nb k2 hk2 (e2 ▸ z8)))
set_option maxRecDepth 100000 in
set_option maxHeartbeats 4000000 in
/-- pour, refused -/
theorem c_hh_pour_x (l : Launch) (D : va_G) (cI cT cP : ClassId) (h r : Nat) (ft : Nat → Option Nat) (hft : ∀ k, k < 3 → ∃ b, ft k = some b) (q1 q2 : Int32) (hq : bad q1 ∨ bad q2 ∨ q1 = q2) : Cg l y_hh_pour b_hh_pour 5 (some .int) 6 0 0 D (ty3 cI cT cP) [.ref h, .int q1, .int q2] ([(h, .inr (1, [.ref r])), (r, .inl (cT, 3, .inr (.inr (.inr (.inr ft)))))]) (fun (v : Option Value) (u : Unit) => v = some (.int (-1))) (fun u => [(h, .inr (1, [.ref r])), (r, .inl (cT, 3, .inr (.inr (.inr (.inr ft)))))]) := by
  refine cg_enter rfl (Nat.le_of_ble_eq_true rfl) ?_
  intro p e s m below meth c args hx hb hr hlk hml hown hin hts A hA hK hP hD hS ls hl Q hQ
  have hl : lv_has ls 5 [(0, .ref h), (1, .int q1), (2, .int q2)] := hl
  have hP : va_P D cls ([(h, .inr (1, [.ref r])), (r, .inl (cT, 3, .inr (.inr (.inr (.inr ft)))))]) s.heap := hP
  have hD : va_D A ([(h, .inr (1, [.ref r])), (r, .inl (cT, 3, .inr (.inr (.inr (.inr ft)))))]) := hD
  rcases bad_or q1 with b1 | ⟨k1, hk1, e1⟩
  · rcases bad_or q2 with b2 | ⟨k2, hk2, e2⟩
    · refine lv_aload_n hx hb d_hh_pour_0 rfl (lv_at hl 0 rfl) ?_
      refine lv_iload_n hx hb d_hh_pour_1 rfl (lv_at hl 1 rfl) ?_
      refine cg_V (hn := 1) (As := [.int q1]) (rest := []) (wr := [(r, .inl (cT, 3, .inr (.inr (.inr (.inr ft)))))]) (q0 := 0) (ci := 1) hx hb hml hown hts (c_hh_tableOf_x l D cI cT cP h r q1 b1) km_hh_18 ki_hh_tableOf ks_hh_tableOf kn_hh kc_hh_tableOf (by decide +kernel) rfl ⟨Nat.le_of_ble_eq_true rfl, Nat.le_of_ble_eq_true rfl⟩ hK hP hD hS hA [0] [1] rfl (by decide) rfl (by decide) (by decide) rfl rfl hl.1 rfl (Nat.le_of_ble_eq_true rfl) d_hh_pour_2 ⟨Nat.zero_le _, Nat.zero_le _⟩ (fun v u H locs hpost hP hD hS => ?_)
      subst hpost
      refine W.eq (g2 := F0 m 5 ls [.null]) rfl ?_
      have hP : va_P D cls ([(r, .inl (cT, 3, .inr (.inr (.inr (.inr ft))))), (h, .inr (1, [.ref r]))]) H := hP
      have hD : va_D A ([(r, .inl (cT, 3, .inr (.inr (.inr (.inr ft))))), (h, .inr (1, [.ref r]))]) := hD
      have hP : va_P D cls ([(h, .inr (1, [.ref r])), (r, .inl (cT, 3, .inr (.inr (.inr (.inr ft)))))]) H := hP.sub [1, 0] rfl
      have hD : va_D A ([(h, .inr (1, [.ref r])), (r, .inl (cT, 3, .inr (.inr (.inr (.inr ft)))))]) := hD.sub [1, 0] (by decide) rfl
      refine lv_astore_nN (lv' := [(3, .null), (0, .ref h), (1, .int q1), (2, .int q2)]) hx hb d_hh_pour_5 rfl hl (by decide) rfl (fun ls hl => ?_)
      refine lv_aload_n hx hb d_hh_pour_6 rfl (lv_at hl 1 rfl) ?_
      refine lv_iload_n hx hb d_hh_pour_7 rfl (lv_at hl 3 rfl) ?_
      refine cg_V (hn := 1) (As := [.int q2]) (rest := []) (wr := [(r, .inl (cT, 3, .inr (.inr (.inr (.inr ft)))))]) (q0 := 0) (ci := 1) hx hb hml hown hts (c_hh_tableOf_x l D cI cT cP h r q2 b2) km_hh_18 ki_hh_tableOf ks_hh_tableOf kn_hh kc_hh_tableOf (by decide +kernel) rfl ⟨Nat.le_of_ble_eq_true rfl, Nat.le_of_ble_eq_true rfl⟩ hK hP hD hS hA [0] [1] rfl (by decide) rfl (by decide) (by decide) rfl rfl hl.1 rfl (Nat.le_of_ble_eq_true rfl) d_hh_pour_8 ⟨Nat.zero_le _, Nat.zero_le _⟩ (fun v u H locs hpost hP hD hS => ?_)
      subst hpost
      refine W.eq (g2 := F0 m 11 ls [.null]) rfl ?_
      have hP : va_P D cls ([(r, .inl (cT, 3, .inr (.inr (.inr (.inr ft))))), (h, .inr (1, [.ref r]))]) H := hP
      have hD : va_D A ([(r, .inl (cT, 3, .inr (.inr (.inr (.inr ft))))), (h, .inr (1, [.ref r]))]) := hD
      have hP : va_P D cls ([(h, .inr (1, [.ref r])), (r, .inl (cT, 3, .inr (.inr (.inr (.inr ft)))))]) H := hP.sub [1, 0] rfl
      have hD : va_D A ([(h, .inr (1, [.ref r])), (r, .inl (cT, 3, .inr (.inr (.inr (.inr ft)))))]) := hD.sub [1, 0] (by decide) rfl
      refine lv_astoreN (lv' := [(4, .null), (3, .null), (0, .ref h), (1, .int q1), (2, .int q2)]) hx hb d_hh_pour_11 hl (by decide) rfl (fun ls hl => ?_)
      refine lv_aload_nN hx hb d_hh_pour_13 rfl (lv_at hl 1 rfl) ?_
      refine lv_ifnullN (tgt := 27) hx hb d_hh_pour_14 (by decide) ?_
      refine lv_iconst (v := (-1)) hx hb d_hh_pour_27 (by decide) ?_
      exact cg_iret (u := ()) hQ hx hb hr hlk hK hP hD hS rfl d_hh_pour_28
    · obtain ⟨a2, hf2⟩ := hft k2 hk2
      subst e2
      refine lv_aload_n hx hb d_hh_pour_0 rfl (lv_at hl 0 rfl) ?_
      refine lv_iload_n hx hb d_hh_pour_1 rfl (lv_at hl 1 rfl) ?_
      refine cg_V (hn := 1) (As := [.int q1]) (rest := []) (wr := [(r, .inl (cT, 3, .inr (.inr (.inr (.inr ft)))))]) (q0 := 0) (ci := 1) hx hb hml hown hts (c_hh_tableOf_x l D cI cT cP h r q1 b1) km_hh_18 ki_hh_tableOf ks_hh_tableOf kn_hh kc_hh_tableOf (by decide +kernel) rfl ⟨Nat.le_of_ble_eq_true rfl, Nat.le_of_ble_eq_true rfl⟩ hK hP hD hS hA [0] [1] rfl (by decide) rfl (by decide) (by decide) rfl rfl hl.1 rfl (Nat.le_of_ble_eq_true rfl) d_hh_pour_2 ⟨Nat.zero_le _, Nat.zero_le _⟩ (fun v u H locs hpost hP hD hS => ?_)
      subst hpost
      refine W.eq (g2 := F0 m 5 ls [.null]) rfl ?_
      have hP : va_P D cls ([(r, .inl (cT, 3, .inr (.inr (.inr (.inr ft))))), (h, .inr (1, [.ref r]))]) H := hP
      have hD : va_D A ([(r, .inl (cT, 3, .inr (.inr (.inr (.inr ft))))), (h, .inr (1, [.ref r]))]) := hD
      have hP : va_P D cls ([(h, .inr (1, [.ref r])), (r, .inl (cT, 3, .inr (.inr (.inr (.inr ft)))))]) H := hP.sub [1, 0] rfl
      have hD : va_D A ([(h, .inr (1, [.ref r])), (r, .inl (cT, 3, .inr (.inr (.inr (.inr ft)))))]) := hD.sub [1, 0] (by decide) rfl
      refine lv_astore_nN (lv' := [(3, .null), (0, .ref h), (1, .int q1), (2, .int (nI k2))]) hx hb d_hh_pour_5 rfl hl (by decide) rfl (fun ls hl => ?_)
      refine lv_aload_n hx hb d_hh_pour_6 rfl (lv_at hl 1 rfl) ?_
      refine lv_iload_n hx hb d_hh_pour_7 rfl (lv_at hl 3 rfl) ?_
      refine cg_V (hn := 1) (As := [.int (nI k2)]) (rest := []) (wr := []) (q0 := 0) (ci := 1) hx hb hml hown hts (c_hh_tableOf l D cI cT cP h r ft k2 hk2 a2 hf2) km_hh_18 ki_hh_tableOf ks_hh_tableOf kn_hh kc_hh_tableOf (by decide +kernel) rfl ⟨Nat.le_of_ble_eq_true rfl, Nat.le_of_ble_eq_true rfl⟩ hK hP hD hS hA [0, 1] [] rfl (by decide) rfl (by decide) (by decide) rfl rfl hl.1 rfl (Nat.le_of_ble_eq_true rfl) d_hh_pour_8 ⟨Nat.zero_le _, Nat.zero_le _⟩ (fun v u H locs hpost hP hD hS => ?_)
      subst hpost
      refine W.eq (g2 := F0 m 11 ls [.ref a2]) rfl ?_
      have hP : va_P D cls ([(h, .inr (1, [.ref r])), (r, .inl (cT, 3, .inr (.inr (.inr (.inr ft)))))]) H := hP
      have hD : va_D A ([(h, .inr (1, [.ref r])), (r, .inl (cT, 3, .inr (.inr (.inr (.inr ft)))))]) := hD
      have hP : va_P D cls ([(h, .inr (1, [.ref r])), (r, .inl (cT, 3, .inr (.inr (.inr (.inr ft)))))]) H := hP.sub [0, 1] rfl
      have hD : va_D A ([(h, .inr (1, [.ref r])), (r, .inl (cT, 3, .inr (.inr (.inr (.inr ft)))))]) := hD.sub [0, 1] (by decide) rfl
      refine lv_astore (lv' := [(4, .ref a2), (3, .null), (0, .ref h), (1, .int q1), (2, .int (nI k2))]) hx hb d_hh_pour_11 hl (by decide) rfl (fun ls hl => ?_)
      refine lv_aload_nN hx hb d_hh_pour_13 rfl (lv_at hl 1 rfl) ?_
      refine lv_ifnullN (tgt := 27) hx hb d_hh_pour_14 (by decide) ?_
      refine lv_iconst (v := (-1)) hx hb d_hh_pour_27 (by decide) ?_
      exact cg_iret (u := ()) hQ hx hb hr hlk hK hP hD hS rfl d_hh_pour_28
  · obtain ⟨a1, hf1⟩ := hft k1 hk1
    rcases bad_or q2 with b2 | ⟨k2, hk2, e2⟩
    · subst e1
      refine lv_aload_n hx hb d_hh_pour_0 rfl (lv_at hl 0 rfl) ?_
      refine lv_iload_n hx hb d_hh_pour_1 rfl (lv_at hl 1 rfl) ?_
      refine cg_V (hn := 1) (As := [.int (nI k1)]) (rest := []) (wr := []) (q0 := 0) (ci := 1) hx hb hml hown hts (c_hh_tableOf l D cI cT cP h r ft k1 hk1 a1 hf1) km_hh_18 ki_hh_tableOf ks_hh_tableOf kn_hh kc_hh_tableOf (by decide +kernel) rfl ⟨Nat.le_of_ble_eq_true rfl, Nat.le_of_ble_eq_true rfl⟩ hK hP hD hS hA [0, 1] [] rfl (by decide) rfl (by decide) (by decide) rfl rfl hl.1 rfl (Nat.le_of_ble_eq_true rfl) d_hh_pour_2 ⟨Nat.zero_le _, Nat.zero_le _⟩ (fun v u H locs hpost hP hD hS => ?_)
      subst hpost
      refine W.eq (g2 := F0 m 5 ls [.ref a1]) rfl ?_
      have hP : va_P D cls ([(h, .inr (1, [.ref r])), (r, .inl (cT, 3, .inr (.inr (.inr (.inr ft)))))]) H := hP
      have hD : va_D A ([(h, .inr (1, [.ref r])), (r, .inl (cT, 3, .inr (.inr (.inr (.inr ft)))))]) := hD
      have hP : va_P D cls ([(h, .inr (1, [.ref r])), (r, .inl (cT, 3, .inr (.inr (.inr (.inr ft)))))]) H := hP.sub [0, 1] rfl
      have hD : va_D A ([(h, .inr (1, [.ref r])), (r, .inl (cT, 3, .inr (.inr (.inr (.inr ft)))))]) := hD.sub [0, 1] (by decide) rfl
      refine lv_astore_n (lv' := [(3, .ref a1), (0, .ref h), (1, .int (nI k1)), (2, .int q2)]) hx hb d_hh_pour_5 rfl hl (by decide) rfl (fun ls hl => ?_)
      refine lv_aload_n hx hb d_hh_pour_6 rfl (lv_at hl 1 rfl) ?_
      refine lv_iload_n hx hb d_hh_pour_7 rfl (lv_at hl 3 rfl) ?_
      refine cg_V (hn := 1) (As := [.int q2]) (rest := []) (wr := [(r, .inl (cT, 3, .inr (.inr (.inr (.inr ft)))))]) (q0 := 0) (ci := 1) hx hb hml hown hts (c_hh_tableOf_x l D cI cT cP h r q2 b2) km_hh_18 ki_hh_tableOf ks_hh_tableOf kn_hh kc_hh_tableOf (by decide +kernel) rfl ⟨Nat.le_of_ble_eq_true rfl, Nat.le_of_ble_eq_true rfl⟩ hK hP hD hS hA [0] [1] rfl (by decide) rfl (by decide) (by decide) rfl rfl hl.1 rfl (Nat.le_of_ble_eq_true rfl) d_hh_pour_8 ⟨Nat.zero_le _, Nat.zero_le _⟩ (fun v u H locs hpost hP hD hS => ?_)
      subst hpost
      refine W.eq (g2 := F0 m 11 ls [.null]) rfl ?_
      have hP : va_P D cls ([(r, .inl (cT, 3, .inr (.inr (.inr (.inr ft))))), (h, .inr (1, [.ref r]))]) H := hP
      have hD : va_D A ([(r, .inl (cT, 3, .inr (.inr (.inr (.inr ft))))), (h, .inr (1, [.ref r]))]) := hD
      have hP : va_P D cls ([(h, .inr (1, [.ref r])), (r, .inl (cT, 3, .inr (.inr (.inr (.inr ft)))))]) H := hP.sub [1, 0] rfl
      have hD : va_D A ([(h, .inr (1, [.ref r])), (r, .inl (cT, 3, .inr (.inr (.inr (.inr ft)))))]) := hD.sub [1, 0] (by decide) rfl
      refine lv_astoreN (lv' := [(4, .null), (3, .ref a1), (0, .ref h), (1, .int (nI k1)), (2, .int q2)]) hx hb d_hh_pour_11 hl (by decide) rfl (fun ls hl => ?_)
      refine lv_aload_n hx hb d_hh_pour_13 rfl (lv_at hl 1 rfl) ?_
      refine lv_ifnull hx hb d_hh_pour_14 ?_
      refine lv_aloadN hx hb d_hh_pour_17 (lv_at hl 0 rfl) ?_
      refine lv_ifnullN (tgt := 27) hx hb d_hh_pour_19 (by decide) ?_
      refine lv_iconst (v := (-1)) hx hb d_hh_pour_27 (by decide) ?_
      exact cg_iret (u := ()) hQ hx hb hr hlk hK hP hD hS rfl d_hh_pour_28
    · obtain ⟨a2, hf2⟩ := hft k2 hk2
      have nb : ∀ k, k < 3 → ¬ bad (nI k) := fun k hk z9 => z9.elim (nI_pos (by omega)) (nI_ge hk (by decide))
      have heq : q1 = q2 := hq.elim (fun z8 => absurd (e1 ▸ z8) (nb k1 hk1)) (fun z7 => z7.elim (fun z8 => absurd (e2 ▸ z8) (nb k2 hk2)) id)
      subst e1
      subst e2
      refine lv_aload_n hx hb d_hh_pour_0 rfl (lv_at hl 0 rfl) ?_
      refine lv_iload_n hx hb d_hh_pour_1 rfl (lv_at hl 1 rfl) ?_
      refine cg_V (hn := 1) (As := [.int (nI k1)]) (rest := []) (wr := []) (q0 := 0) (ci := 1) hx hb hml hown hts (c_hh_tableOf l D cI cT cP h r ft k1 hk1 a1 hf1) km_hh_18 ki_hh_tableOf ks_hh_tableOf kn_hh kc_hh_tableOf (by decide +kernel) rfl ⟨Nat.le_of_ble_eq_true rfl, Nat.le_of_ble_eq_true rfl⟩ hK hP hD hS hA [0, 1] [] rfl (by decide) rfl (by decide) (by decide) rfl rfl hl.1 rfl (Nat.le_of_ble_eq_true rfl) d_hh_pour_2 ⟨Nat.zero_le _, Nat.zero_le _⟩ (fun v u H locs hpost hP hD hS => ?_)
      subst hpost
      refine W.eq (g2 := F0 m 5 ls [.ref a1]) rfl ?_
      have hP : va_P D cls ([(h, .inr (1, [.ref r])), (r, .inl (cT, 3, .inr (.inr (.inr (.inr ft)))))]) H := hP
      have hD : va_D A ([(h, .inr (1, [.ref r])), (r, .inl (cT, 3, .inr (.inr (.inr (.inr ft)))))]) := hD
      have hP : va_P D cls ([(h, .inr (1, [.ref r])), (r, .inl (cT, 3, .inr (.inr (.inr (.inr ft)))))]) H := hP.sub [0, 1] rfl
      have hD : va_D A ([(h, .inr (1, [.ref r])), (r, .inl (cT, 3, .inr (.inr (.inr (.inr ft)))))]) := hD.sub [0, 1] (by decide) rfl
      refine lv_astore_n (lv' := [(3, .ref a1), (0, .ref h), (1, .int (nI k1)), (2, .int (nI k2))]) hx hb d_hh_pour_5 rfl hl (by decide) rfl (fun ls hl => ?_)
      refine lv_aload_n hx hb d_hh_pour_6 rfl (lv_at hl 1 rfl) ?_
      refine lv_iload_n hx hb d_hh_pour_7 rfl (lv_at hl 3 rfl) ?_
      refine cg_V (hn := 1) (As := [.int (nI k2)]) (rest := []) (wr := []) (q0 := 0) (ci := 1) hx hb hml hown hts (c_hh_tableOf l D cI cT cP h r ft k2 hk2 a2 hf2) km_hh_18 ki_hh_tableOf ks_hh_tableOf kn_hh kc_hh_tableOf (by decide +kernel) rfl ⟨Nat.le_of_ble_eq_true rfl, Nat.le_of_ble_eq_true rfl⟩ hK hP hD hS hA [0, 1] [] rfl (by decide) rfl (by decide) (by decide) rfl rfl hl.1 rfl (Nat.le_of_ble_eq_true rfl) d_hh_pour_8 ⟨Nat.zero_le _, Nat.zero_le _⟩ (fun v u H locs hpost hP hD hS => ?_)
      subst hpost
      refine W.eq (g2 := F0 m 11 ls [.ref a2]) rfl ?_
      have hP : va_P D cls ([(h, .inr (1, [.ref r])), (r, .inl (cT, 3, .inr (.inr (.inr (.inr ft)))))]) H := hP
      have hD : va_D A ([(h, .inr (1, [.ref r])), (r, .inl (cT, 3, .inr (.inr (.inr (.inr ft)))))]) := hD
      have hP : va_P D cls ([(h, .inr (1, [.ref r])), (r, .inl (cT, 3, .inr (.inr (.inr (.inr ft)))))]) H := hP.sub [0, 1] rfl
      have hD : va_D A ([(h, .inr (1, [.ref r])), (r, .inl (cT, 3, .inr (.inr (.inr (.inr ft)))))]) := hD.sub [0, 1] (by decide) rfl
      refine lv_astore (lv' := [(4, .ref a2), (3, .ref a1), (0, .ref h), (1, .int (nI k1)), (2, .int (nI k2))]) hx hb d_hh_pour_11 hl (by decide) rfl (fun ls hl => ?_)
      refine lv_aload_n hx hb d_hh_pour_13 rfl (lv_at hl 1 rfl) ?_
      refine lv_ifnull hx hb d_hh_pour_14 ?_
      refine lv_aload hx hb d_hh_pour_17 (lv_at hl 0 rfl) ?_
      refine lv_ifnull hx hb d_hh_pour_19 ?_
      refine lv_iload_n hx hb d_hh_pour_22 rfl (lv_at hl 3 rfl) ?_
      refine lv_iload_n hx hb d_hh_pour_23 rfl (lv_at hl 4 rfl) ?_
      refine lv_icmp_ne (tgt := 29) hx hb d_hh_pour_24 (by decide) (fun z9 => absurd heq z9) (fun _ => ?_)
      refine lv_iconst (v := (-1)) hx hb d_hh_pour_27 (by decide) ?_
      exact cg_iret (u := ()) hQ hx hb hr hlk hK hP hD hS rfl d_hh_pour_28
