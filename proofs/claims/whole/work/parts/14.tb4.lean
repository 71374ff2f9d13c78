-- Table: the state as a bundle; insert, constructor: printed by wip/whole/gen/tb4.py
abbrev TB : Type := Nat × Nat × Nat × Nat × Nat × Nat × (Nat → Int32) × (Nat → Int32) × (Nat → Int32) × (Nat → Int32) × (Nat → Int32) × (Nat → Int32) × Int32 × Nat × List Nat
/-- a Table's cells, its state in a bundle -/
abbrev tw (cI : ClassId) (a : Nat) (mv : Bool) (j : Nat) (u : TB) : va_W := tx cI a (mvI mv) (nI u.2.2.2.2.2.2.2.2.2.2.2.2.2.2.length) u.1 u.2.1 u.2.2.1 u.2.2.2.1 u.2.2.2.2.1 u.2.2.2.2.2.1 (2 ^ (4 + j)) u.2.2.2.2.2.2.1 u.2.2.2.2.2.2.2.1 u.2.2.2.2.2.2.2.2.1 u.2.2.2.2.2.2.2.2.2.1 u.2.2.2.2.2.2.2.2.2.2.1 u.2.2.2.2.2.2.2.2.2.2.2.1 u.2.2.2.2.2.2.2.2.2.2.2.2.1 (nI u.2.2.2.2.2.2.2.2.2.2.2.2.2.1)
/-- a Table of 16 * 2 ^ j places holds the entries L -/
def TL (j : Nat) (L : List (Int32 × Int32)) (u : TB) : Prop := ∃ (Fr : List Nat) (bl : Nat → List Nat), TA (2 ^ (4 + j)) j u.2.2.2.2.2.2.2.2.2.2.2.2.2.1 u.2.2.2.2.2.2.2.2.2.2.2.2.2.2 Fr ∧ TN u.2.2.2.2.2.2.2.2.1 u.2.2.2.2.2.2.2.2.2.1 u.2.2.2.2.2.2.2.2.2.2.2.2.2.2 ∧ TH (2 ^ (4 + j)) u.2.2.2.2.2.2.1 u.2.2.2.2.2.2.2.2.2.2.1 u.2.2.2.2.2.2.2.2.2.2.2.1 u.2.2.2.2.2.2.2.2.2.2.2.2.1 u.2.2.2.2.2.2.2.2.2.2.2.2.2.2 Fr bl ∧ (u.2.2.2.2.2.2.2.2.2.2.2.2.2.2.map u.2.2.2.2.2.2.1).Nodup ∧ L = kv u.2.2.2.2.2.2.1 u.2.2.2.2.2.2.2.1 u.2.2.2.2.2.2.2.2.2.2.2.2.2.2
/-- how long the rows are once one more entry has come -/
def nj (j len : Nat) : Nat := if len + 1 = 2 ^ (4 + j) then j + 1 else j
def mcT (j j' : Nat) : Nat := 6 * (j' - j)
def msT (j j' : Nat) : Nat := 6 * 2 ^ (5 + j') - 6 * 2 ^ (5 + j)
theorem nI_sub1 {n : Nat} (h : 0 < n) : nI n - 1 = nI (n - 1) := by
  have := nI_pred (n - 1)
  rwa [Nat.sub_add_cancel h] at this
theorem ins_all {n j mm i : Nat} {K V P N G C : Nat → Int32} {fl k v0 : Int32} {R Fr : List Nat} {bl : Nat → List Nat} (hTA : TA n j mm (R ++ [i]) Fr) (hTN : TN P N R) (hTH : TH n K G C fl R Fr bl) (hKn : (R.map K).Nodup) (hk : k ∉ R.map K) : TN (upd (upd P i (nI (ls_ 0 R))) 0 (nI i)) (upd (upd N (ls_ 0 R) (nI i)) i 0) (R ++ [i]) ∧ TH n (upd K i k) (upd G (hof n k) (nI i)) (upd C i (G (hof n k))) fl (R ++ [i]) Fr (blA bl (hof n k) i) ∧ ((R ++ [i]).map (upd K i k)).Nodup ∧ kv K V R ++ [(k, v0)] = kv (upd K i k) (upd V i v0) (R ++ [i]) ∧ i < n ∧ P 0 = nI (ls_ 0 R) := by
  have nd0 := ta_nd0 hTA
  have hi0 : i ∉ 0 :: R := by
    have h1 : (i :: 0 :: R).Perm (0 :: (R ++ [i])) := (List.Perm.swap 0 i R).trans (List.Perm.cons 0 (List.perm_append_singleton i R).symm)
    exact (List.nodup_cons.mp (h1.nodup_iff.mpr nd0)).1
  have hiR : i ∉ R := fun z => hi0 (List.mem_cons_of_mem _ z)
  have hiF : i ∉ Fr := fun z => (List.nodup_append.mp hTA.2.2.1).2.2 i (List.mem_append_right _ (List.mem_cons_self ..)) i z rfl
  have ndR : (0 :: R).Nodup := List.Nodup.sublist (List.Sublist.cons_cons 0 (List.sublist_append_left R [i])) nd0
  have hadd := tn_add ndR hi0 hTN
  have hmap : (R ++ [i]).map (upd K i k) = R.map K ++ [k] := by
    rw [List.map_append]
    congr 1
    · exact List.map_congr_left (fun y hy => pk_un (fun z => hiR (by rw [← z]; exact hy)))
    · show [upd K i k i] = [k]
      rw [pk_us]
  refine ⟨hadd.2, th_add hiR hiF hTH, ?_, ?_, (ta_in hTA (List.mem_append_right _ (List.mem_cons_self ..))).2.2, hadd.1⟩
  · rw [hmap]
    refine List.nodup_append.mpr ⟨hKn, by simp, fun y hy z hz q => ?_⟩
    have h2 : z = k := by simpa using hz
    exact hk (by rw [← h2, ← q]; exact hy)
  · show _ = List.map _ (R ++ [i])
    rw [List.map_append]
    congr 1
    · exact List.map_congr_left (fun y hy => by rw [pk_un (fun z => hiR (by rw [← z]; exact hy)), pk_un (fun z => hiR (by rw [← z]; exact hy))])
    · show [(k, v0)] = [(upd K i k i, upd V i v0 i)]
      rw [pk_us, pk_us]
set_option maxRecDepth 100000 in
set_option maxHeartbeats 4000000 in
/-- insert(k, v0) -/
theorem c_tb_insert (l : Launch) (D : va_G) (cI cT cP : ClassId) (a : Nat) (mv : Bool) (qk qv qb qf qh qc : Nat) (K V P N G C : Nat → Int32) (fl : Int32) (j mm : Nat) (R Fr : List Nat) (bl : Nat → List Nat) (hTA : TA (2 ^ (4 + j)) j mm R Fr) (hTN : TN P N R) (hTH : TH (2 ^ (4 + j)) K G C fl R Fr bl) (hKn : (R.map K).Nodup) (k v0 : Int32) (hk : k ∉ R.map K) (hlen : R.length < 2047) : Cg l y_tb_insert b_tb_insert 4 (none) 3 (mcT j (nj j R.length)) (msT j (nj j R.length)) D (ty3 cI cT cP) [.ref a, .int k, .int v0] (tx cI a (mvI mv) (nI R.length) qk qv qb qf qh qc (2 ^ (4 + j)) K V P N G C fl (nI mm)) (fun (v : Option Value) (u : TB) => v = none ∧ TL (nj j R.length) (kv K V R ++ [(k, v0)]) u) (fun u => tw cI a mv (nj j R.length) u) := by
  refine cg_enter rfl (Nat.le_of_ble_eq_true rfl) ?_
  intro p e s m below meth c args hx hb hr hlk hml hown hin hts A hA hK hP hD hS ls hl Q hQ
  have hl : lv_has ls 4 [(0, .ref a), (1, .int k), (2, .int v0)] := hl
  have hP : va_P D cls (tx cI a (mvI mv) (nI R.length) qk qv qb qf qh qc (2 ^ (4 + j)) K V P N G C fl (nI mm)) s.heap := hP
  have hD : va_D A (tx cI a (mvI mv) (nI R.length) qk qv qb qf qh qc (2 ^ (4 + j)) K V P N G C fl (nI mm)) := hD
  have hn0 := ta_len hTA
  have hn1 := ta_n hTA
  have fin : ∀ (n j2 mm : Nat) (qk qv qb qf qh qc : Nat) (K2 V2 P N G C : Nat → Int32) (fl : Int32) (Fr : List Nat) (bl : Nat → List Nat), TA n j2 mm R Fr → TN P N R → TH n K2 G C fl R Fr bl → (R.map K2).Nodup → k ∉ R.map K2 → kv K V R = kv K2 V2 R → R.length + 1 < n → j2 = nj j R.length → ∀ (H : Heap) (locs : List Loc), va_P D cls (tx cI a (mvI mv) (nI R.length) qk qv qb qf qh qc n K2 V2 P N G C fl (nI mm)) H → va_D A (tx cI a (mvI mv) (nI R.length) qk qv qb qf qh qc n K2 V2 P N G C fl (nI mm)) → va_S A s.heap H locs → ∀ ls : Array Slot, lv_has ls 4 [(0, .ref a), (1, .int k), (2, .int v0)] → W p l e (rmL 3 (mcT j (nj j R.length)) (msT j (nj j R.length))) s m args below meth c H locs (mcT j (nj j R.length)) (msT j (nj j R.length)) Q (F0 m 30 ls []) := by
    clear hP hD hS hTA hTN hTH hKn hk hl hn0 hn1
    intro n j2 mm qk qv qb qf qh qc K2 V2 P N G C fl Fr bl hTA hTN hTH hKn hk ekv hln ej H locs hP hD hS ls hl
    have hn : n < 2 ^ 31 := (ta_len hTA).2.2
    have et := hTA.1.1
    have ht : 4 + j2 ≤ 30 := by have := hTA.1.2; omega
    cases Fr with
    | nil =>
      have hfl : fl = 0 := hTH.1
      subst hfl
      have hTA2 : TA n j2 (mm + 1) (R ++ [mm + 1]) [] := ta_make hTA (by have := hTA.2.2.2.2; simp at this; omega)
      have hTH2 : TH n K2 G C 0 R [] bl := hTH
      obtain ⟨a1, a2, a3, a4, hin1, eP⟩ := ins_all (V := V2) (v0 := v0) hTA2 hTN hTH2 hKn hk
      refine lv_aload_n hx hb d_tb_insert_30 rfl (lv_at hl 0 rfl) ?_
      refine cg_V (hn := 0) (As := []) (rest := []) (wr := []) (q0 := 0) (ci := 0) hx hb hml hown hts (c_tb_freeSlot_n l D cI cT cP a (mvI mv) (nI R.length) qk qv qb qf qh qc n K2 V2 P N G C hn mm) km_tb_94 ki_tb_freeSlot ks_tb_freeSlot kn_tb kc_tb_freeSlot (by decide +kernel) rfl ⟨Nat.le_of_ble_eq_true rfl, Nat.le_of_ble_eq_true rfl⟩ hK hP hD hS hA [0, 1, 2, 3, 4, 5, 6] [] rfl (by decide) rfl (by decide) (by decide) rfl rfl hl.1 rfl (Nat.le_of_ble_eq_true rfl) d_tb_insert_31 ⟨Nat.le_refl _, Nat.le_refl _⟩ (fun v u H locs hpost hP hD hS => ?_)
      subst hpost
      refine W.eq (g2 := F0 m 34 ls [.int (nI (mm + 1))]) rfl ?_
      have hP : va_P D cls (tx cI a (mvI mv) (nI R.length) qk qv qb qf qh qc n K2 V2 P N G C 0 (nI (mm + 1))) H := hP
      have hD : va_D A (tx cI a (mvI mv) (nI R.length) qk qv qb qf qh qc n K2 V2 P N G C 0 (nI (mm + 1))) := hD
      refine lv_istore_n (lv' := [(3, .int (nI (mm + 1))), (0, .ref a), (1, .int k), (2, .int v0)]) hx hb d_tb_insert_34 rfl hl (by decide) rfl (fun ls hl => ?_)
      refine lv_aload_n hx hb d_tb_insert_35 rfl (lv_at hl 1 rfl) ?_
      refine va_get (D := D) (ci := 0) (v := .ref qk) (C := R_tb) (T := F_tb) (N := 10) hx hb hts i_tb hown hK hP 0 rfl rfl 2 (by decide) (hts _ kf_tb_15) (fun _ h9 => h9) rfl d_tb_insert_36 ?_
      refine lv_iload_n hx hb d_tb_insert_39 rfl (lv_at hl 0 rfl) ?_
      refine lv_iload_n hx hb d_tb_insert_40 rfl (lv_at hl 2 rfl) ?_
      refine wa_st (k := mm + 1) (x := k) hx hb hK hP hD hS 1 0 rfl rfl hin1 hn d_tb_insert_41 (fun H locs hP hD hS => ?_)
      have hP : va_P D cls (tx cI a (mvI mv) (nI R.length) qk qv qb qf qh qc n (upd K2 (mm + 1) k) V2 P N G C 0 (nI (mm + 1))) H := hP
      have hD : va_D A (tx cI a (mvI mv) (nI R.length) qk qv qb qf qh qc n (upd K2 (mm + 1) k) V2 P N G C 0 (nI (mm + 1))) := hD
      refine lv_aload_n hx hb d_tb_insert_42 rfl (lv_at hl 1 rfl) ?_
      refine va_get (D := D) (ci := 0) (v := .ref qv) (C := R_tb) (T := F_tb) (N := 10) hx hb hts i_tb hown hK hP 0 rfl rfl 3 (by decide) (hts _ kf_tb_19) (fun _ h9 => h9) rfl d_tb_insert_43 ?_
      refine lv_iload_n hx hb d_tb_insert_46 rfl (lv_at hl 0 rfl) ?_
      refine lv_iload_n hx hb d_tb_insert_47 rfl (lv_at hl 3 rfl) ?_
      refine wa_st (k := mm + 1) (x := v0) hx hb hK hP hD hS 2 0 rfl rfl hin1 hn d_tb_insert_48 (fun H locs hP hD hS => ?_)
      have hP : va_P D cls (tx cI a (mvI mv) (nI R.length) qk qv qb qf qh qc n (upd K2 (mm + 1) k) (upd V2 (mm + 1) v0) P N G C 0 (nI (mm + 1))) H := hP
      have hD : va_D A (tx cI a (mvI mv) (nI R.length) qk qv qb qf qh qc n (upd K2 (mm + 1) k) (upd V2 (mm + 1) v0) P N G C 0 (nI (mm + 1))) := hD
      refine lv_aload_n hx hb d_tb_insert_49 rfl (lv_at hl 1 rfl) ?_
      refine lv_iload_n hx hb d_tb_insert_50 rfl (lv_at hl 0 rfl) ?_
      refine cg_V (hn := 1) (As := [.int (nI (mm + 1))]) (rest := []) (wr := []) (q0 := 0) (ci := 0) hx hb hml hown hts (c_tb_hook l D cI cT cP a (mvI mv) (nI R.length) qk qv qb qf qh qc n (upd K2 (mm + 1) k) (upd V2 (mm + 1) v0) P N G C 0 (nI (mm + 1)) hn (4 + j2) et ht (mm + 1) hin1) km_tb_98 ki_tb_hook ks_tb_hook kn_tb kc_tb_hook (by decide +kernel) rfl ⟨Nat.le_of_ble_eq_true rfl, Nat.le_of_ble_eq_true rfl⟩ hK hP hD hS hA [0, 1, 2, 3, 4, 5, 6] [] rfl (by decide) rfl (by decide) (by decide) rfl rfl hl.1 rfl (Nat.le_of_ble_eq_true rfl) d_tb_insert_51 ⟨Nat.le_refl _, Nat.le_refl _⟩ (fun v u H locs hpost hP hD hS => ?_)
      subst hpost
      rw [pk_us] at hP hD
      refine W.eq (g2 := F0 m 54 ls []) rfl ?_
      have hP : va_P D cls (tx cI a (mvI mv) (nI R.length) qk qv qb qf qh qc n (upd K2 (mm + 1) k) (upd V2 (mm + 1) v0) P N (upd G (hof n k) (nI (mm + 1))) (upd C (mm + 1) (G (hof n k))) 0 (nI (mm + 1))) H := hP
      have hD : va_D A (tx cI a (mvI mv) (nI R.length) qk qv qb qf qh qc n (upd K2 (mm + 1) k) (upd V2 (mm + 1) v0) P N (upd G (hof n k) (nI (mm + 1))) (upd C (mm + 1) (G (hof n k))) 0 (nI (mm + 1))) := hD
      refine lv_aload_n hx hb d_tb_insert_54 rfl (lv_at hl 1 rfl) ?_
      refine lv_iload_n hx hb d_tb_insert_55 rfl (lv_at hl 0 rfl) ?_
      refine cg_V (hn := 1) (As := [.int (nI (mm + 1))]) (rest := []) (wr := []) (q0 := 0) (ci := 0) hx hb hml hown hts (c_tb_linkLast l D cI cT cP a (mvI mv) (nI R.length) qk qv qb qf qh qc n (upd K2 (mm + 1) k) (upd V2 (mm + 1) v0) P N (upd G (hof n k) (nI (mm + 1))) (upd C (mm + 1) (G (hof n k))) 0 (nI (mm + 1)) hn (mm + 1) (ls_ 0 R) hin1 (ta_ls hTA (l1 := R) (l2 := []) (by simp)) eP) km_tb_101 ki_tb_linkLast ks_tb_linkLast kn_tb kc_tb_linkLast (by decide +kernel) rfl ⟨Nat.le_of_ble_eq_true rfl, Nat.le_of_ble_eq_true rfl⟩ hK hP hD hS hA [0, 1, 2, 3, 4, 5, 6] [] rfl (by decide) rfl (by decide) (by decide) rfl rfl hl.1 rfl (Nat.le_of_ble_eq_true rfl) d_tb_insert_56 ⟨Nat.le_refl _, Nat.le_refl _⟩ (fun v u H locs hpost hP hD hS => ?_)
      subst hpost
      refine W.eq (g2 := F0 m 59 ls []) rfl ?_
      have hP : va_P D cls (tx cI a (mvI mv) (nI R.length) qk qv qb qf qh qc n (upd K2 (mm + 1) k) (upd V2 (mm + 1) v0) (upd (upd P (mm + 1) (nI (ls_ 0 R))) 0 (nI (mm + 1))) (upd (upd N (ls_ 0 R) (nI (mm + 1))) (mm + 1) 0) (upd G (hof n k) (nI (mm + 1))) (upd C (mm + 1) (G (hof n k))) 0 (nI (mm + 1))) H := hP
      have hD : va_D A (tx cI a (mvI mv) (nI R.length) qk qv qb qf qh qc n (upd K2 (mm + 1) k) (upd V2 (mm + 1) v0) (upd (upd P (mm + 1) (nI (ls_ 0 R))) 0 (nI (mm + 1))) (upd (upd N (ls_ 0 R) (nI (mm + 1))) (mm + 1) 0) (upd G (hof n k) (nI (mm + 1))) (upd C (mm + 1) (G (hof n k))) 0 (nI (mm + 1))) := hD
      refine lv_aload_n hx hb d_tb_insert_59 rfl (lv_at hl 1 rfl) ?_
      refine lv_dup hx hb d_tb_insert_60 rfl ?_
      refine va_get (D := D) (ci := 0) (v := .int (nI R.length)) (C := R_tb) (T := F_tb) (N := 10) hx hb hts i_tb hown hK hP 0 rfl rfl 1 (by decide) (hts _ kf_tb_52) (fun _ h9 => h9) rfl d_tb_insert_61 ?_
      refine lv_iconst (v := 1) hx hb d_tb_insert_64 (by decide) ?_
      refine lv_iadd hx hb d_tb_insert_65 ?_
      refine tp_i (y := nI (R ++ [(mm + 1)]).length) (by rw [List.length_append]; exact nI_1 _) ?_
      refine va_put (D := D) (ci := 0) (v := .int (nI (R ++ [(mm + 1)]).length)) (ty := .int) (C := R_tb) (T := F_tb) (N := 10) hx hb hts i_tb t_tb t_tb_ok n_tb hown hK hP hD hS 0 rfl rfl 1 (by decide) (hts _ kf_tb_52) (fun _ h9 => h9) rfl (by decide +kernel) rfl rfl (Nat.le_of_ble_eq_true rfl) d_tb_insert_66 (fun H locs hP hD hS => ?_)
      have hP : va_P D cls (tx cI a (mvI mv) (nI (R ++ [(mm + 1)]).length) qk qv qb qf qh qc n (upd K2 (mm + 1) k) (upd V2 (mm + 1) v0) (upd (upd P (mm + 1) (nI (ls_ 0 R))) 0 (nI (mm + 1))) (upd (upd N (ls_ 0 R) (nI (mm + 1))) (mm + 1) 0) (upd G (hof n k) (nI (mm + 1))) (upd C (mm + 1) (G (hof n k))) 0 (nI (mm + 1))) H := hP
      have hD : va_D A (tx cI a (mvI mv) (nI (R ++ [(mm + 1)]).length) qk qv qb qf qh qc n (upd K2 (mm + 1) k) (upd V2 (mm + 1) v0) (upd (upd P (mm + 1) (nI (ls_ 0 R))) 0 (nI (mm + 1))) (upd (upd N (ls_ 0 R) (nI (mm + 1))) (mm + 1) 0) (upd G (hof n k) (nI (mm + 1))) (upd C (mm + 1) (G (hof n k))) 0 (nI (mm + 1))) := hD
      subst ej
      subst et
      exact cg_vret (u := (qk, qv, qb, qf, qh, qc, (upd K2 (mm + 1) k), (upd V2 (mm + 1) v0), (upd (upd P (mm + 1) (nI (ls_ 0 R))) 0 (nI (mm + 1))), (upd (upd N (ls_ 0 R) (nI (mm + 1))) (mm + 1) 0), (upd G (hof (2 ^ (4 + nj j R.length)) k) (nI (mm + 1))), (upd C (mm + 1) (G (hof (2 ^ (4 + nj j R.length)) k))), 0, (mm + 1), R ++ [(mm + 1)])) hQ hx hb hr hlk hK hP hD hS (⟨rfl, [], _, hTA2, a1, a2, a3, by rw [ekv]; exact a4⟩) d_tb_insert_69
    | cons x Fr =>
      have hfl : fl = nI x := hTH.1.1
      subst hfl
      have hTA2 : TA n j2 mm (R ++ [x]) Fr := ta_take hTA
      have hTH2 : TH n K2 G C (C x) R Fr bl := ⟨hTH.1.2, hTH.2⟩
      have hxn := ta_inF hTA (List.mem_cons_self ..)
      obtain ⟨a1, a2, a3, a4, hin1, eP⟩ := ins_all (V := V2) (v0 := v0) hTA2 hTN hTH2 hKn hk
      refine lv_aload_n hx hb d_tb_insert_30 rfl (lv_at hl 0 rfl) ?_
      refine cg_V (hn := 0) (As := []) (rest := []) (wr := []) (q0 := 0) (ci := 0) hx hb hml hown hts (c_tb_freeSlot l D cI cT cP a (mvI mv) (nI R.length) qk qv qb qf qh qc n K2 V2 P N G C (nI mm) hn x hxn.2.2 hxn.1) km_tb_94 ki_tb_freeSlot ks_tb_freeSlot kn_tb kc_tb_freeSlot (by decide +kernel) rfl ⟨Nat.le_of_ble_eq_true rfl, Nat.le_of_ble_eq_true rfl⟩ hK hP hD hS hA [0, 1, 2, 3, 4, 5, 6] [] rfl (by decide) rfl (by decide) (by decide) rfl rfl hl.1 rfl (Nat.le_of_ble_eq_true rfl) d_tb_insert_31 ⟨Nat.le_refl _, Nat.le_refl _⟩ (fun v u H locs hpost hP hD hS => ?_)
      subst hpost
      refine W.eq (g2 := F0 m 34 ls [.int (nI x)]) rfl ?_
      have hP : va_P D cls (tx cI a (mvI mv) (nI R.length) qk qv qb qf qh qc n K2 V2 P N G C (C x) (nI mm)) H := hP
      have hD : va_D A (tx cI a (mvI mv) (nI R.length) qk qv qb qf qh qc n K2 V2 P N G C (C x) (nI mm)) := hD
      refine lv_istore_n (lv' := [(3, .int (nI x)), (0, .ref a), (1, .int k), (2, .int v0)]) hx hb d_tb_insert_34 rfl hl (by decide) rfl (fun ls hl => ?_)
      refine lv_aload_n hx hb d_tb_insert_35 rfl (lv_at hl 1 rfl) ?_
      refine va_get (D := D) (ci := 0) (v := .ref qk) (C := R_tb) (T := F_tb) (N := 10) hx hb hts i_tb hown hK hP 0 rfl rfl 2 (by decide) (hts _ kf_tb_15) (fun _ h9 => h9) rfl d_tb_insert_36 ?_
      refine lv_iload_n hx hb d_tb_insert_39 rfl (lv_at hl 0 rfl) ?_
      refine lv_iload_n hx hb d_tb_insert_40 rfl (lv_at hl 2 rfl) ?_
      refine wa_st (k := x) (x := k) hx hb hK hP hD hS 1 0 rfl rfl hin1 hn d_tb_insert_41 (fun H locs hP hD hS => ?_)
      have hP : va_P D cls (tx cI a (mvI mv) (nI R.length) qk qv qb qf qh qc n (upd K2 x k) V2 P N G C (C x) (nI mm)) H := hP
      have hD : va_D A (tx cI a (mvI mv) (nI R.length) qk qv qb qf qh qc n (upd K2 x k) V2 P N G C (C x) (nI mm)) := hD
      refine lv_aload_n hx hb d_tb_insert_42 rfl (lv_at hl 1 rfl) ?_
      refine va_get (D := D) (ci := 0) (v := .ref qv) (C := R_tb) (T := F_tb) (N := 10) hx hb hts i_tb hown hK hP 0 rfl rfl 3 (by decide) (hts _ kf_tb_19) (fun _ h9 => h9) rfl d_tb_insert_43 ?_
      refine lv_iload_n hx hb d_tb_insert_46 rfl (lv_at hl 0 rfl) ?_
      refine lv_iload_n hx hb d_tb_insert_47 rfl (lv_at hl 3 rfl) ?_
      refine wa_st (k := x) (x := v0) hx hb hK hP hD hS 2 0 rfl rfl hin1 hn d_tb_insert_48 (fun H locs hP hD hS => ?_)
      have hP : va_P D cls (tx cI a (mvI mv) (nI R.length) qk qv qb qf qh qc n (upd K2 x k) (upd V2 x v0) P N G C (C x) (nI mm)) H := hP
      have hD : va_D A (tx cI a (mvI mv) (nI R.length) qk qv qb qf qh qc n (upd K2 x k) (upd V2 x v0) P N G C (C x) (nI mm)) := hD
      refine lv_aload_n hx hb d_tb_insert_49 rfl (lv_at hl 1 rfl) ?_
      refine lv_iload_n hx hb d_tb_insert_50 rfl (lv_at hl 0 rfl) ?_
      refine cg_V (hn := 1) (As := [.int (nI x)]) (rest := []) (wr := []) (q0 := 0) (ci := 0) hx hb hml hown hts (c_tb_hook l D cI cT cP a (mvI mv) (nI R.length) qk qv qb qf qh qc n (upd K2 x k) (upd V2 x v0) P N G C (C x) (nI mm) hn (4 + j2) et ht x hin1) km_tb_98 ki_tb_hook ks_tb_hook kn_tb kc_tb_hook (by decide +kernel) rfl ⟨Nat.le_of_ble_eq_true rfl, Nat.le_of_ble_eq_true rfl⟩ hK hP hD hS hA [0, 1, 2, 3, 4, 5, 6] [] rfl (by decide) rfl (by decide) (by decide) rfl rfl hl.1 rfl (Nat.le_of_ble_eq_true rfl) d_tb_insert_51 ⟨Nat.le_refl _, Nat.le_refl _⟩ (fun v u H locs hpost hP hD hS => ?_)
      subst hpost
      rw [pk_us] at hP hD
      refine W.eq (g2 := F0 m 54 ls []) rfl ?_
      have hP : va_P D cls (tx cI a (mvI mv) (nI R.length) qk qv qb qf qh qc n (upd K2 x k) (upd V2 x v0) P N (upd G (hof n k) (nI x)) (upd C x (G (hof n k))) (C x) (nI mm)) H := hP
      have hD : va_D A (tx cI a (mvI mv) (nI R.length) qk qv qb qf qh qc n (upd K2 x k) (upd V2 x v0) P N (upd G (hof n k) (nI x)) (upd C x (G (hof n k))) (C x) (nI mm)) := hD
      refine lv_aload_n hx hb d_tb_insert_54 rfl (lv_at hl 1 rfl) ?_
      refine lv_iload_n hx hb d_tb_insert_55 rfl (lv_at hl 0 rfl) ?_
      refine cg_V (hn := 1) (As := [.int (nI x)]) (rest := []) (wr := []) (q0 := 0) (ci := 0) hx hb hml hown hts (c_tb_linkLast l D cI cT cP a (mvI mv) (nI R.length) qk qv qb qf qh qc n (upd K2 x k) (upd V2 x v0) P N (upd G (hof n k) (nI x)) (upd C x (G (hof n k))) (C x) (nI mm) hn x (ls_ 0 R) hin1 (ta_ls hTA (l1 := R) (l2 := []) (by simp)) eP) km_tb_101 ki_tb_linkLast ks_tb_linkLast kn_tb kc_tb_linkLast (by decide +kernel) rfl ⟨Nat.le_of_ble_eq_true rfl, Nat.le_of_ble_eq_true rfl⟩ hK hP hD hS hA [0, 1, 2, 3, 4, 5, 6] [] rfl (by decide) rfl (by decide) (by decide) rfl rfl hl.1 rfl (Nat.le_of_ble_eq_true rfl) d_tb_insert_56 ⟨Nat.le_refl _, Nat.le_refl _⟩ (fun v u H locs hpost hP hD hS => ?_)
      subst hpost
      refine W.eq (g2 := F0 m 59 ls []) rfl ?_
      have hP : va_P D cls (tx cI a (mvI mv) (nI R.length) qk qv qb qf qh qc n (upd K2 x k) (upd V2 x v0) (upd (upd P x (nI (ls_ 0 R))) 0 (nI x)) (upd (upd N (ls_ 0 R) (nI x)) x 0) (upd G (hof n k) (nI x)) (upd C x (G (hof n k))) (C x) (nI mm)) H := hP
      have hD : va_D A (tx cI a (mvI mv) (nI R.length) qk qv qb qf qh qc n (upd K2 x k) (upd V2 x v0) (upd (upd P x (nI (ls_ 0 R))) 0 (nI x)) (upd (upd N (ls_ 0 R) (nI x)) x 0) (upd G (hof n k) (nI x)) (upd C x (G (hof n k))) (C x) (nI mm)) := hD
      refine lv_aload_n hx hb d_tb_insert_59 rfl (lv_at hl 1 rfl) ?_
      refine lv_dup hx hb d_tb_insert_60 rfl ?_
      refine va_get (D := D) (ci := 0) (v := .int (nI R.length)) (C := R_tb) (T := F_tb) (N := 10) hx hb hts i_tb hown hK hP 0 rfl rfl 1 (by decide) (hts _ kf_tb_52) (fun _ h9 => h9) rfl d_tb_insert_61 ?_
      refine lv_iconst (v := 1) hx hb d_tb_insert_64 (by decide) ?_
      refine lv_iadd hx hb d_tb_insert_65 ?_
      refine tp_i (y := nI (R ++ [x]).length) (by rw [List.length_append]; exact nI_1 _) ?_
      refine va_put (D := D) (ci := 0) (v := .int (nI (R ++ [x]).length)) (ty := .int) (C := R_tb) (T := F_tb) (N := 10) hx hb hts i_tb t_tb t_tb_ok n_tb hown hK hP hD hS 0 rfl rfl 1 (by decide) (hts _ kf_tb_52) (fun _ h9 => h9) rfl (by decide +kernel) rfl rfl (Nat.le_of_ble_eq_true rfl) d_tb_insert_66 (fun H locs hP hD hS => ?_)
      have hP : va_P D cls (tx cI a (mvI mv) (nI (R ++ [x]).length) qk qv qb qf qh qc n (upd K2 x k) (upd V2 x v0) (upd (upd P x (nI (ls_ 0 R))) 0 (nI x)) (upd (upd N (ls_ 0 R) (nI x)) x 0) (upd G (hof n k) (nI x)) (upd C x (G (hof n k))) (C x) (nI mm)) H := hP
      have hD : va_D A (tx cI a (mvI mv) (nI (R ++ [x]).length) qk qv qb qf qh qc n (upd K2 x k) (upd V2 x v0) (upd (upd P x (nI (ls_ 0 R))) 0 (nI x)) (upd (upd N (ls_ 0 R) (nI x)) x 0) (upd G (hof n k) (nI x)) (upd C x (G (hof n k))) (C x) (nI mm)) := hD
      subst ej
      subst et
      exact cg_vret (u := (qk, qv, qb, qf, qh, qc, (upd K2 x k), (upd V2 x v0), (upd (upd P x (nI (ls_ 0 R))) 0 (nI x)), (upd (upd N (ls_ 0 R) (nI x)) x 0), (upd G (hof (2 ^ (4 + nj j R.length)) k) (nI x)), (upd C x (G (hof (2 ^ (4 + nj j R.length)) k))), (C x), mm, R ++ [x])) hQ hx hb hr hlk hK hP hD hS (⟨rfl, Fr, _, hTA2, a1, a2, a3, by rw [ekv]; exact a4⟩) d_tb_insert_69
  refine lv_aload_n hx hb d_tb_insert_0 rfl (lv_at hl 0 rfl) ?_
  refine va_get (D := D) (ci := 0) (v := .int (nI R.length)) (C := R_tb) (T := F_tb) (N := 10) hx hb hts i_tb hown hK hP 0 rfl rfl 1 (by decide) (hts _ kf_tb_52) (fun _ h9 => h9) rfl d_tb_insert_1 ?_
  refine lv_aload_n hx hb d_tb_insert_4 rfl (lv_at hl 0 rfl) ?_
  refine va_get (D := D) (ci := 0) (v := .ref qk) (C := R_tb) (T := F_tb) (N := 10) hx hb hts i_tb hown hK hP 0 rfl rfl 2 (by decide) (hts _ kf_tb_15) (fun _ h9 => h9) rfl d_tb_insert_5 ?_
  refine va_alen (v := nI (2 ^ (4 + j))) hx hb hK hP 1 0 rfl rfl rfl d_tb_insert_8 ?_
  refine lv_iconst (v := 1) hx hb d_tb_insert_9 (by decide) ?_
  refine lv_isub hx hb d_tb_insert_10 ?_
  refine tp_i (y := nI (2 ^ (4 + j) - 1)) (nI_sub1 (by omega)) ?_
  refine lv_icmp_ne (tgt := 30) hx hb d_tb_insert_11 (by decide) (fun c1 => ?_) (fun c1 => ?_)
  · have c2 : ¬ R.length + 1 = 2 ^ (4 + j) := fun z9 => c1 (by rw [show R.length = 2 ^ (4 + j) - 1 by omega])
    refine W.widen (k := mcT j (nj j R.length)) (n := msT j (nj j R.length)) (Nat.zero_le _) (Nat.zero_le _) ?_
    exact fin _ j mm qk qv qb qf qh qc K V P N G C fl Fr bl hTA hTN hTH hKn hk rfl (by omega) (by unfold nj; rw [if_neg c2]) _ _ hP hD hS ls (lv_sub hl [0, 1, 2] rfl)
  · have c2 : R.length + 1 = 2 ^ (4 + j) := by have := (nI_eq (by omega) (by omega)).mp c1; omega
    have hj7 : j < 7 := by
      have h7 := hTA.1.2
      rcases Nat.lt_or_ge j 7 with h | h
      · exact h
      · have : j = 7 := by omega
        subst this
        omega
    have enj : nj j R.length = j + 1 := by unfold nj; rw [if_pos c2]
    obtain ⟨eF, em, hTA2⟩ := ta_grow hTA c2 hj7
    subst eF
    have hfl : fl = 0 := hTH.1
    subst hfl
    have hmc : mcT j (nj j R.length) = 6 := by rw [enj]; unfold mcT; omega
    have hms : msT j (nj j R.length) = 6 * (2 * 2 ^ (4 + j)) := by
      rw [enj]
      unfold msT
      have e1 : 2 ^ (5 + (j + 1)) = 4 * 2 ^ (4 + j) := by rw [show 5 + (j + 1) = 4 + j + 2 by omega, Nat.pow_add]; omega
      have e2 : 2 ^ (5 + j) = 2 * 2 ^ (4 + j) := by rw [show 5 + j = 4 + j + 1 by omega, Nat.pow_succ]; omega
      omega
    refine lv_aload_n hx hb d_tb_insert_14 rfl (lv_at hl 0 rfl) ?_
    refine va_get (D := D) (ci := 0) (v := .ref qk) (C := R_tb) (T := F_tb) (N := 10) hx hb hts i_tb hown hK hP 0 rfl rfl 2 (by decide) (hts _ kf_tb_15) (fun _ h9 => h9) rfl d_tb_insert_15 ?_
    refine va_alen (v := nI (2 ^ (4 + j))) hx hb hK hP 1 0 rfl rfl rfl d_tb_insert_18 ?_
    refine lv_sipush (v := 2048) hx hb d_tb_insert_19 (by decide) ?_
    refine lv_icmp_lt (tgt := 26) hx hb d_tb_insert_22 (by decide) (fun _ => ?_) (fun z9 => absurd (nI_lt (a := 2 ^ (4 + j)) (b := 2048) (by omega) (by decide)) z9)
    refine lv_aload_n hx hb d_tb_insert_26 rfl (lv_at hl 0 rfl) ?_
    refine cg_V (hn := 0) (As := []) (rest := []) (wr := []) (q0 := 0) (ci := 0) hx hb hml hown hts (c_tb_grow l D cI cT cP a (mvI mv) (nI R.length) qk qv qb qf qh qc (2 ^ (4 + j)) K V P N G C 0 (4 + j) mm rfl (by omega) hTA.2.1) km_tb_91 ki_tb_grow ks_tb_grow kn_tb kc_tb_grow (by decide +kernel) rfl ⟨Nat.le_of_ble_eq_true rfl, Nat.le_of_ble_eq_true rfl⟩ hK hP hD hS hA [0, 1, 2, 3, 4, 5, 6] [] rfl (by decide) rfl (by decide) (by decide) rfl rfl hl.1 rfl (Nat.le_of_ble_eq_true rfl) d_tb_insert_27 ⟨by show _ ≤ mcT j (nj j R.length); omega, by show _ ≤ msT j (nj j R.length); omega⟩ (fun v u H locs hpost hP hD hS => ?_)
    obtain ⟨rk, rv, rb, rf, rh, rc, G2, C2⟩ := u
    obtain ⟨e9, hg⟩ := hpost
    subst e9
    refine W.eq (g2 := F0 m 30 ls []) rfl ?_
    have hP : va_P D cls (tx cI a (mvI mv) (nI R.length) rk rv rb rf rh rc (2 * 2 ^ (4 + j)) (cpy (2 ^ (4 + j)) K) (cpy (2 ^ (4 + j)) V) (cpy (2 ^ (4 + j)) P) (cpy (2 ^ (4 + j)) N) G2 C2 0 (nI mm)) H := hP
    have hD : va_D A (tx cI a (mvI mv) (nI R.length) rk rv rb rf rh rc (2 * 2 ^ (4 + j)) (cpy (2 ^ (4 + j)) K) (cpy (2 ^ (4 + j)) V) (cpy (2 ^ (4 + j)) P) (cpy (2 ^ (4 + j)) N) G2 C2 0 (nI mm)) := hD
    have hcp : ∀ (f : Nat → Int32) (y : Nat), y ∈ R → cpy (2 ^ (4 + j)) f y = f y := fun f y hy => cpy_in (ta_in hTA hy).2.2
    have hc0 : ∀ f : Nat → Int32, cpy (2 ^ (4 + j)) f 0 = f 0 := fun f => cpy_in (by omega)
    have hTN2 : TN (cpy (2 ^ (4 + j)) P) (cpy (2 ^ (4 + j)) N) R := by
      refine ⟨?_, ?_⟩
      · rw [hc0]; exact sg_cong (fun y hy => hcp N y hy) hTN.1
      · rw [hc0]; exact sg_cong (fun y hy => hcp P y (List.mem_reverse.mp hy)) hTN.2
    have hmK : R.map (cpy (2 ^ (4 + j)) K) = R.map K := List.map_congr_left (fun y hy => hcp K y hy)
    have hkv : kv K V R = kv (cpy (2 ^ (4 + j)) K) (cpy (2 ^ (4 + j)) V) R := List.map_congr_left (fun y hy => by rw [hcp K y hy, hcp V y hy])
    refine W.widen (k := mcT j (nj j R.length)) (n := msT j (nj j R.length)) (by omega) (by omega) ?_
    exact fin _ (j + 1) mm rk rv rb rf rh rc _ _ _ _ G2 C2 0 [] _ hTA2 hTN2 (th_grow hTA2 hg) (by rw [hmK]; exact hKn) (by rw [hmK]; exact hk) hkv (by omega) enj.symm _ _ hP hD hS ls (lv_sub hl [0, 1, 2] rfl)
set_option maxRecDepth 100000 in
set_option maxHeartbeats 4000000 in
/-- new Table(mv) -/
theorem c_tb_init (l : Launch) (D : va_G) (cI cT cP : ClassId) (a : Nat) (mv : Bool) : Cg l y_tb_init b_tb_init 2 (none) 1 6 96 D (ty3 cI cT cP) [.ref a, .int (mvI mv)] ([(a, .inr (0, [.int 0, .int 0, .null, .null, .null, .null, .null, .null, .int 0, .int 0]))]) (fun (v : Option Value) (u : TB) => v = none ∧ TL 0 [] u) (fun u => tw cI a mv 0 u) := by
  refine cg_enter rfl (Nat.le_of_ble_eq_true rfl) ?_
  intro p e s m below meth c args hx hb hr hlk hml hown hin hts A hA hK hP hD hS ls hl Q hQ
  have hl : lv_has ls 2 [(0, .ref a), (1, .int (mvI mv))] := hl
  have hP : va_P D cls ([(a, .inr (0, [.int 0, .int 0, .null, .null, .null, .null, .null, .null, .int 0, .int 0]))]) s.heap := hP
  have hD : va_D A ([(a, .inr (0, [.int 0, .int 0, .null, .null, .null, .null, .null, .null, .int 0, .int 0]))]) := hD
  refine lv_aload_n hx hb d_tb_init_0 rfl (lv_at hl 0 rfl) ?_
  refine W.objInit hx hb hown (hts _ km_tb_3) (hts _ ki_jo_init) (hts _ kc_jo_init) rfl (by rw [hml]; exact hl.1) rfl d_tb_init_1 (Nat.le_of_ble_eq_true rfl) (Nat.le_of_ble_eq_true rfl) ?_
  refine lv_aload_n hx hb d_tb_init_4 rfl (lv_at hl 0 rfl) ?_
  refine lv_iload_n hx hb d_tb_init_5 rfl (lv_at hl 1 rfl) ?_
  refine va_putF (D := D) (ci := 0) (v := .int (mvI mv)) (ty := .boolean) (C := R_tb) (T := F_tb) (N := 10) hx hb hts i_tb t_tb t_tb_ok n_tb hown hK hP hD hS 0 rfl rfl 0 (by decide) (hts _ kf_tb_9) (fun _ h9 => h9) rfl hin rfl (by decide +kernel) (by cases mv <;> rfl) (by cases mv <;> rfl) (Nat.le_of_ble_eq_true rfl) d_tb_init_6 (fun H locs hP hD hS => ?_)
  have hP : va_P D cls ([(a, .inr (0, [.int (mvI mv), .int 0, .null, .null, .null, .null, .null, .null, .int 0, .int 0]))]) H := hP
  have hD : va_D A ([(a, .inr (0, [.int (mvI mv), .int 0, .null, .null, .null, .null, .null, .null, .int 0, .int 0]))]) := hD
  refine lv_aload_n hx hb d_tb_init_9 rfl (lv_at hl 0 rfl) ?_
  refine lv_bipush (v := 16) hx hb d_tb_init_10 (by decide) ?_
  refine wa_new (k := 16) hx hb hts hK hP hD hS hA (by decide) (by decide) (by decide) d_tb_init_12 (fun rk H hP hD hS => ?_)
  have hP : va_P D cls ([(a, .inr (0, [.int (mvI mv), .int 0, .null, .null, .null, .null, .null, .null, .int 0, .int 0])), (rk, .inl (cI, 16, .inl (fun _ => 0)))]) H := hP
  have hD : va_D A ([(a, .inr (0, [.int (mvI mv), .int 0, .null, .null, .null, .null, .null, .null, .int 0, .int 0])), (rk, .inl (cI, 16, .inl (fun _ => 0)))]) := hD
  refine va_put (D := D) (ci := 0) (v := .ref rk) (ty := .array .int) (C := R_tb) (T := F_tb) (N := 10) hx hb hts i_tb t_tb t_tb_ok n_tb hown hK hP hD hS 0 rfl rfl 2 (by decide) (hts _ kf_tb_15) (fun _ h9 => h9) rfl (by decide +kernel) rfl rfl (Nat.le_of_ble_eq_true rfl) d_tb_init_14 (fun H locs hP hD hS => ?_)
  have hP : va_P D cls ([(a, .inr (0, [.int (mvI mv), .int 0, .ref rk, .null, .null, .null, .null, .null, .int 0, .int 0])), (rk, .inl (cI, 16, .inl (fun _ => 0)))]) H := hP
  have hD : va_D A ([(a, .inr (0, [.int (mvI mv), .int 0, .ref rk, .null, .null, .null, .null, .null, .int 0, .int 0])), (rk, .inl (cI, 16, .inl (fun _ => 0)))]) := hD
  refine lv_aload_n hx hb d_tb_init_17 rfl (lv_at hl 0 rfl) ?_
  refine lv_bipush (v := 16) hx hb d_tb_init_18 (by decide) ?_
  refine wa_new (k := 16) hx hb hts hK hP hD hS hA (by decide) (by decide) (by decide) d_tb_init_20 (fun rv H hP hD hS => ?_)
  have hP : va_P D cls ([(a, .inr (0, [.int (mvI mv), .int 0, .ref rk, .null, .null, .null, .null, .null, .int 0, .int 0])), (rk, .inl (cI, 16, .inl (fun _ => 0))), (rv, .inl (cI, 16, .inl (fun _ => 0)))]) H := hP
  have hD : va_D A ([(a, .inr (0, [.int (mvI mv), .int 0, .ref rk, .null, .null, .null, .null, .null, .int 0, .int 0])), (rk, .inl (cI, 16, .inl (fun _ => 0))), (rv, .inl (cI, 16, .inl (fun _ => 0)))]) := hD
  refine va_put (D := D) (ci := 0) (v := .ref rv) (ty := .array .int) (C := R_tb) (T := F_tb) (N := 10) hx hb hts i_tb t_tb t_tb_ok n_tb hown hK hP hD hS 0 rfl rfl 3 (by decide) (hts _ kf_tb_19) (fun _ h9 => h9) rfl (by decide +kernel) rfl rfl (Nat.le_of_ble_eq_true rfl) d_tb_init_22 (fun H locs hP hD hS => ?_)
  have hP : va_P D cls ([(a, .inr (0, [.int (mvI mv), .int 0, .ref rk, .ref rv, .null, .null, .null, .null, .int 0, .int 0])), (rk, .inl (cI, 16, .inl (fun _ => 0))), (rv, .inl (cI, 16, .inl (fun _ => 0)))]) H := hP
  have hD : va_D A ([(a, .inr (0, [.int (mvI mv), .int 0, .ref rk, .ref rv, .null, .null, .null, .null, .int 0, .int 0])), (rk, .inl (cI, 16, .inl (fun _ => 0))), (rv, .inl (cI, 16, .inl (fun _ => 0)))]) := hD
  refine lv_aload_n hx hb d_tb_init_25 rfl (lv_at hl 0 rfl) ?_
  refine lv_bipush (v := 16) hx hb d_tb_init_26 (by decide) ?_
  refine wa_new (k := 16) hx hb hts hK hP hD hS hA (by decide) (by decide) (by decide) d_tb_init_28 (fun rb H hP hD hS => ?_)
  have hP : va_P D cls ([(a, .inr (0, [.int (mvI mv), .int 0, .ref rk, .ref rv, .null, .null, .null, .null, .int 0, .int 0])), (rk, .inl (cI, 16, .inl (fun _ => 0))), (rv, .inl (cI, 16, .inl (fun _ => 0))), (rb, .inl (cI, 16, .inl (fun _ => 0)))]) H := hP
  have hD : va_D A ([(a, .inr (0, [.int (mvI mv), .int 0, .ref rk, .ref rv, .null, .null, .null, .null, .int 0, .int 0])), (rk, .inl (cI, 16, .inl (fun _ => 0))), (rv, .inl (cI, 16, .inl (fun _ => 0))), (rb, .inl (cI, 16, .inl (fun _ => 0)))]) := hD
  refine va_put (D := D) (ci := 0) (v := .ref rb) (ty := .array .int) (C := R_tb) (T := F_tb) (N := 10) hx hb hts i_tb t_tb t_tb_ok n_tb hown hK hP hD hS 0 rfl rfl 4 (by decide) (hts _ kf_tb_22) (fun _ h9 => h9) rfl (by decide +kernel) rfl rfl (Nat.le_of_ble_eq_true rfl) d_tb_init_30 (fun H locs hP hD hS => ?_)
  have hP : va_P D cls ([(a, .inr (0, [.int (mvI mv), .int 0, .ref rk, .ref rv, .ref rb, .null, .null, .null, .int 0, .int 0])), (rk, .inl (cI, 16, .inl (fun _ => 0))), (rv, .inl (cI, 16, .inl (fun _ => 0))), (rb, .inl (cI, 16, .inl (fun _ => 0)))]) H := hP
  have hD : va_D A ([(a, .inr (0, [.int (mvI mv), .int 0, .ref rk, .ref rv, .ref rb, .null, .null, .null, .int 0, .int 0])), (rk, .inl (cI, 16, .inl (fun _ => 0))), (rv, .inl (cI, 16, .inl (fun _ => 0))), (rb, .inl (cI, 16, .inl (fun _ => 0)))]) := hD
  refine lv_aload_n hx hb d_tb_init_33 rfl (lv_at hl 0 rfl) ?_
  refine lv_bipush (v := 16) hx hb d_tb_init_34 (by decide) ?_
  refine wa_new (k := 16) hx hb hts hK hP hD hS hA (by decide) (by decide) (by decide) d_tb_init_36 (fun rf H hP hD hS => ?_)
  have hP : va_P D cls ([(a, .inr (0, [.int (mvI mv), .int 0, .ref rk, .ref rv, .ref rb, .null, .null, .null, .int 0, .int 0])), (rk, .inl (cI, 16, .inl (fun _ => 0))), (rv, .inl (cI, 16, .inl (fun _ => 0))), (rb, .inl (cI, 16, .inl (fun _ => 0))), (rf, .inl (cI, 16, .inl (fun _ => 0)))]) H := hP
  have hD : va_D A ([(a, .inr (0, [.int (mvI mv), .int 0, .ref rk, .ref rv, .ref rb, .null, .null, .null, .int 0, .int 0])), (rk, .inl (cI, 16, .inl (fun _ => 0))), (rv, .inl (cI, 16, .inl (fun _ => 0))), (rb, .inl (cI, 16, .inl (fun _ => 0))), (rf, .inl (cI, 16, .inl (fun _ => 0)))]) := hD
  refine va_put (D := D) (ci := 0) (v := .ref rf) (ty := .array .int) (C := R_tb) (T := F_tb) (N := 10) hx hb hts i_tb t_tb t_tb_ok n_tb hown hK hP hD hS 0 rfl rfl 5 (by decide) (hts _ kf_tb_25) (fun _ h9 => h9) rfl (by decide +kernel) rfl rfl (Nat.le_of_ble_eq_true rfl) d_tb_init_38 (fun H locs hP hD hS => ?_)
  have hP : va_P D cls ([(a, .inr (0, [.int (mvI mv), .int 0, .ref rk, .ref rv, .ref rb, .ref rf, .null, .null, .int 0, .int 0])), (rk, .inl (cI, 16, .inl (fun _ => 0))), (rv, .inl (cI, 16, .inl (fun _ => 0))), (rb, .inl (cI, 16, .inl (fun _ => 0))), (rf, .inl (cI, 16, .inl (fun _ => 0)))]) H := hP
  have hD : va_D A ([(a, .inr (0, [.int (mvI mv), .int 0, .ref rk, .ref rv, .ref rb, .ref rf, .null, .null, .int 0, .int 0])), (rk, .inl (cI, 16, .inl (fun _ => 0))), (rv, .inl (cI, 16, .inl (fun _ => 0))), (rb, .inl (cI, 16, .inl (fun _ => 0))), (rf, .inl (cI, 16, .inl (fun _ => 0)))]) := hD
  refine lv_aload_n hx hb d_tb_init_41 rfl (lv_at hl 0 rfl) ?_
  refine lv_bipush (v := 16) hx hb d_tb_init_42 (by decide) ?_
  refine wa_new (k := 16) hx hb hts hK hP hD hS hA (by decide) (by decide) (by decide) d_tb_init_44 (fun rh H hP hD hS => ?_)
  have hP : va_P D cls ([(a, .inr (0, [.int (mvI mv), .int 0, .ref rk, .ref rv, .ref rb, .ref rf, .null, .null, .int 0, .int 0])), (rk, .inl (cI, 16, .inl (fun _ => 0))), (rv, .inl (cI, 16, .inl (fun _ => 0))), (rb, .inl (cI, 16, .inl (fun _ => 0))), (rf, .inl (cI, 16, .inl (fun _ => 0))), (rh, .inl (cI, 16, .inl (fun _ => 0)))]) H := hP
  have hD : va_D A ([(a, .inr (0, [.int (mvI mv), .int 0, .ref rk, .ref rv, .ref rb, .ref rf, .null, .null, .int 0, .int 0])), (rk, .inl (cI, 16, .inl (fun _ => 0))), (rv, .inl (cI, 16, .inl (fun _ => 0))), (rb, .inl (cI, 16, .inl (fun _ => 0))), (rf, .inl (cI, 16, .inl (fun _ => 0))), (rh, .inl (cI, 16, .inl (fun _ => 0)))]) := hD
  refine va_put (D := D) (ci := 0) (v := .ref rh) (ty := .array .int) (C := R_tb) (T := F_tb) (N := 10) hx hb hts i_tb t_tb t_tb_ok n_tb hown hK hP hD hS 0 rfl rfl 6 (by decide) (hts _ kf_tb_28) (fun _ h9 => h9) rfl (by decide +kernel) rfl rfl (Nat.le_of_ble_eq_true rfl) d_tb_init_46 (fun H locs hP hD hS => ?_)
  have hP : va_P D cls ([(a, .inr (0, [.int (mvI mv), .int 0, .ref rk, .ref rv, .ref rb, .ref rf, .ref rh, .null, .int 0, .int 0])), (rk, .inl (cI, 16, .inl (fun _ => 0))), (rv, .inl (cI, 16, .inl (fun _ => 0))), (rb, .inl (cI, 16, .inl (fun _ => 0))), (rf, .inl (cI, 16, .inl (fun _ => 0))), (rh, .inl (cI, 16, .inl (fun _ => 0)))]) H := hP
  have hD : va_D A ([(a, .inr (0, [.int (mvI mv), .int 0, .ref rk, .ref rv, .ref rb, .ref rf, .ref rh, .null, .int 0, .int 0])), (rk, .inl (cI, 16, .inl (fun _ => 0))), (rv, .inl (cI, 16, .inl (fun _ => 0))), (rb, .inl (cI, 16, .inl (fun _ => 0))), (rf, .inl (cI, 16, .inl (fun _ => 0))), (rh, .inl (cI, 16, .inl (fun _ => 0)))]) := hD
  refine lv_aload_n hx hb d_tb_init_49 rfl (lv_at hl 0 rfl) ?_
  refine lv_bipush (v := 16) hx hb d_tb_init_50 (by decide) ?_
  refine wa_new (k := 16) hx hb hts hK hP hD hS hA (by decide) (by decide) (by decide) d_tb_init_52 (fun rc H hP hD hS => ?_)
  have hP : va_P D cls ([(a, .inr (0, [.int (mvI mv), .int 0, .ref rk, .ref rv, .ref rb, .ref rf, .ref rh, .null, .int 0, .int 0])), (rk, .inl (cI, 16, .inl (fun _ => 0))), (rv, .inl (cI, 16, .inl (fun _ => 0))), (rb, .inl (cI, 16, .inl (fun _ => 0))), (rf, .inl (cI, 16, .inl (fun _ => 0))), (rh, .inl (cI, 16, .inl (fun _ => 0))), (rc, .inl (cI, 16, .inl (fun _ => 0)))]) H := hP
  have hD : va_D A ([(a, .inr (0, [.int (mvI mv), .int 0, .ref rk, .ref rv, .ref rb, .ref rf, .ref rh, .null, .int 0, .int 0])), (rk, .inl (cI, 16, .inl (fun _ => 0))), (rv, .inl (cI, 16, .inl (fun _ => 0))), (rb, .inl (cI, 16, .inl (fun _ => 0))), (rf, .inl (cI, 16, .inl (fun _ => 0))), (rh, .inl (cI, 16, .inl (fun _ => 0))), (rc, .inl (cI, 16, .inl (fun _ => 0)))]) := hD
  refine va_put (D := D) (ci := 0) (v := .ref rc) (ty := .array .int) (C := R_tb) (T := F_tb) (N := 10) hx hb hts i_tb t_tb t_tb_ok n_tb hown hK hP hD hS 0 rfl rfl 7 (by decide) (hts _ kf_tb_31) (fun _ h9 => h9) rfl (by decide +kernel) rfl rfl (Nat.le_of_ble_eq_true rfl) d_tb_init_54 (fun H locs hP hD hS => ?_)
  have hP : va_P D cls ([(a, .inr (0, [.int (mvI mv), .int 0, .ref rk, .ref rv, .ref rb, .ref rf, .ref rh, .ref rc, .int 0, .int 0])), (rk, .inl (cI, 16, .inl (fun _ => 0))), (rv, .inl (cI, 16, .inl (fun _ => 0))), (rb, .inl (cI, 16, .inl (fun _ => 0))), (rf, .inl (cI, 16, .inl (fun _ => 0))), (rh, .inl (cI, 16, .inl (fun _ => 0))), (rc, .inl (cI, 16, .inl (fun _ => 0)))]) H := hP
  have hD : va_D A ([(a, .inr (0, [.int (mvI mv), .int 0, .ref rk, .ref rv, .ref rb, .ref rf, .ref rh, .ref rc, .int 0, .int 0])), (rk, .inl (cI, 16, .inl (fun _ => 0))), (rv, .inl (cI, 16, .inl (fun _ => 0))), (rb, .inl (cI, 16, .inl (fun _ => 0))), (rf, .inl (cI, 16, .inl (fun _ => 0))), (rh, .inl (cI, 16, .inl (fun _ => 0))), (rc, .inl (cI, 16, .inl (fun _ => 0)))]) := hD
  have hP : va_P D cls ([(a, .inr (0, [.int (mvI mv), .int 0, .ref rk, .ref rv, .ref rb, .ref rf, .ref rh, .ref rc, .int 0, .int 0])), (rk, .inl (cI, 16, .inl (fun _ => 0))), (rv, .inl (cI, 16, .inl (fun _ => 0))), (rb, .inl (cI, 16, .inl (fun _ => 0))), (rf, .inl (cI, 16, .inl (fun _ => 0))), (rh, .inl (cI, 16, .inl (fun _ => 0))), (rc, .inl (cI, 16, .inl (fun _ => 0)))]) H := hP.sub [0, 1, 2, 3, 4, 5, 6] rfl
  have hD : va_D A ([(a, .inr (0, [.int (mvI mv), .int 0, .ref rk, .ref rv, .ref rb, .ref rf, .ref rh, .ref rc, .int 0, .int 0])), (rk, .inl (cI, 16, .inl (fun _ => 0))), (rv, .inl (cI, 16, .inl (fun _ => 0))), (rb, .inl (cI, 16, .inl (fun _ => 0))), (rf, .inl (cI, 16, .inl (fun _ => 0))), (rh, .inl (cI, 16, .inl (fun _ => 0))), (rc, .inl (cI, 16, .inl (fun _ => 0)))]) := hD.sub [0, 1, 2, 3, 4, 5, 6] (by decide) rfl
  exact cg_vret (u := (rk, rv, rb, rf, rh, rc, (fun _ => 0), (fun _ => 0), (fun _ => 0), (fun _ => 0), (fun _ => 0), (fun _ => 0), 0, 0, [])) hQ hx hb hr hlk hK hP hD hS (⟨rfl, [], fun _ => [], ⟨⟨rfl, by decide⟩, by show 0 < 2 ^ (4 + 0); decide, by simp, fun x => by simp; omega, rfl⟩, ⟨rfl, rfl⟩, ⟨rfl, fun h hh => ⟨rfl, List.Perm.refl _⟩⟩, by simp, rfl⟩) d_tb_init_57
