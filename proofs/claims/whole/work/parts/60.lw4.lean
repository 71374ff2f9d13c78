-- The end: the skeleton's second part; whole_start is printed by wip/whole/gen/lw4.py
/-! THE CLAIM OUT OF ONE WALK OF THE LAW'S BODY. Your part is whole_start (and what it stands on); all else here is the same for every law, but numbers. -/
def R_law : String := "HashHallLaw"
def lw_P (b : Addr) (xs : List Int32) (args : Array Value) (s : State) : Prop := args = #[.ref b] ∧ s.IntsAt b xs ∧ xs.length ≤ 2560 ∧ (Jvm.Cond.and given_1 narrow_1).before args s = true
def lw_Q (_ : Array Value) (s : State) (o : Outcome) (t : State) : Prop := o = .returned (some (.int 1)) ∧ Framed s o t [] room_1.cells room_1.slots
def lw_Z (below : List Frame) (a : Array Value) (s : State) : State → Prop := fun t => ∃ o, t.status = .running ∧ Ended t below o ∧ lw_Q a s o t
/-- the law's own end, with 1 on the stack, nothing written that was there before, its room as the claim has it -/
theorem lw_ret {p : Program} {l : Launch} {e : Env} {s : State} {m : MethodId} {below : List Frame} {meth : Method} {c : Code} {b : Nat} (hx : p.tables.exec = Jvm.exec) (hb : c.code = code) (hr : meth.sig.returnType = ret) (hlocks : meth.locks = false) {pc : Nat} {H : Heap} {ls : Array Slot} (hdg : decode code pc = .ok (.ireturn, 1)) : W p l e room_1 s m #[Value.ref b] below meth c H [] room_1.cells room_1.slots (lw_Z below #[Value.ref b] s) (F0 m pc ls [.int 1]) := by
  intro T hT X
  obtain ⟨fs, hret, hrun, hended, hW, hframe⟩ := X.leave (v := some (.int 1)) (hlocks := hlocks) (fun h => by rw [hr] at h; cases h)
  have hmeth' : T.vm.method? m = some meth := X.method'
  refine ⟨T.setFrames fs, ?_, .returned (some (.int 1)), hrun, hended, rfl, ⟨_, rfl⟩, hW, hframe⟩
  jvm_step X.here [X.here.top, hx, hb, hdg, hmeth', hr, ret, narrow_b1]
  (try refine ⟨rfl, ?_⟩); (try refine ⟨rfl, ?_⟩)
  first | (intro acts; rw [hret _ acts rfl rfl rfl]) | rw [hret _ _ rfl rfl rfl]
  exact Steps.refl _
/-- what holds at the law's entry: the machine, the code, the tables' words (any of lw_tbl by 'hts w (by decide +kernel)'), the script of L ints xs at the cell b, what the Statement gives of the start (any of its parts by flat_of_before) -/
def lw_At (p : Program) (s : State) (m : MethodId) (meth : Method) (c : Code) (b L : Nat) (xs : Nat → Int32) : Prop :=
  p.tables.exec = Jvm.exec ∧ c.code = code ∧ meth.sig.returnType = ret ∧ c.maxLocals = 4 ∧ s.vm.findClass R_law = some m.cls ∧ (∀ w ∈ lw_tbl, w.before #[Value.ref b] s = true) ∧ va_X b L xs s s.heap ∧ b < s.heap.size ∧ meth.locks = false ∧ (Jvm.Cond.and given_1 narrow_1).before #[Value.ref b] s = true
set_option maxRecDepth 100000 in
set_option maxHeartbeats 4000000 in
theorem whole_start {p : Program} {e : Env} {s : State} {m : MethodId} {below : List Frame} {meth : Method} {c : Code} (l : Launch) {b L : Nat} {xs : Nat → Int32} (hL : L ≤ 2560) (C0 : lw_At p s m meth c b L xs) : W p l e room_1 s m #[Value.ref b] below meth c s.heap [] 0 0 (lw_Z below #[Value.ref b] s) (entryFrame m ([Value.ref b] : List Value).toArray 4) := by
  obtain ⟨hx, hb, hr, hml, hown, hts0, hX, hbl, hlocks, hgv⟩ := id C0
  have hts : ∀ w ∈ al, w.before #[Value.ref b] s = true := fun w hw => hts0 w (al_tb w hw)
  have hA : ∀ q : Nat, s.heap.size ≤ q → (fun q : Nat => s.heap.size ≤ q) q := fun _ h => h
  obtain ⟨c_tb, iS_tb, hKn_tb⟩ := u_known (C := R_tb) (T := F_tb) (N := 10) (n := 10) hts i_tb (hts _ kb_tb)
  obtain ⟨c_hh, iS_hh, hKn_hh⟩ := u_known (C := R_hh) (T := F_hh) (N := 1) (n := 1) hts i_hh (hts _ kb_hh)
  obtain ⟨c_pr, iS_pr, hKn_pr⟩ := u_known (C := R_pr) (T := F_pr) (N := 10) (n := 10) hts i_pr (hts _ kb_pr)
  obtain ⟨c_md, iS_md, hKn_md⟩ := u_known (C := R_md) (T := F_md) (N := 1) (n := 1) hts i_md (hts _ kb_md)
  obtain ⟨D, hKc⟩ : ∃ D : va_G, ∀ (k : Nat) (q : vw_C), cls[k]? = some q → u_Kn s q.1 q.2.1 q.2.2 (D.1 k) (D.2 k) := by
    refine ⟨(fun k => match k with | 0 => c_tb | 1 => c_hh | 2 => c_pr | _ => c_md, fun k => match k with | 0 => iS_tb | 1 => iS_hh | 2 => iS_pr | _ => iS_md), ?_⟩
    intro k q hq
    match k, hq with
    | 0, hq => cases hq; exact hKn_tb
    | 1, hq => cases hq; exact hKn_hh
    | 2, hq => cases hq; exact hKn_pr
    | 3, hq => cases hq; exact hKn_md
    | k + 4, hq => simp [cls] at hq
  obtain ⟨cI, kI, coI, fI1, fI2, fI3⟩ := Cond.arrayClass_spec (hts _ ka_int)
  have hoT : va_AO "HashHall$Table" s := va_AO.of (hts0 _ (List.mem_of_getElem? (i := 34) (by decide +kernel)))
  have hoP : va_AO "HashHallModel$Pairs" s := va_AO.of (hts0 _ (List.mem_of_getElem? (i := 288) (by decide +kernel)))
  have hoN : va_Nw (.methodLinkNest "HashHallModel" 11 y_pr_init "HashHallModel") s := va_Nw.of rfl (hts0 _ (List.mem_of_getElem? (i := 290) (by decide +kernel)))
  obtain ⟨coT, cT, kT, fT1, fT2, fT3, fT4, fT5⟩ := Cond.arrayOver_spec hoT
  obtain ⟨coP, cP, kP, fP1, fP2, fP3, fP4, fP5⟩ := Cond.arrayOver_spec hoP
  have hK : va_K D cls (ty3 cI cT cP) s := by
    refine ⟨hKc, fun k q hq => ?_⟩
    match k, hq with
    | 0, hq => cases hq; exact ⟨fun N z => ⟨(fun k h => by cases h), kI, fI2, coI, fI3⟩, fI1⟩
    | 1, hq => cases hq; exact ⟨fun N z => ⟨(fun k h => by cases h), kT, fT3, coT, fT4⟩, kT, coT, fT3, fT4, fT1, fT5⟩
    | 2, hq => cases hq; exact ⟨fun N z => ⟨(fun k h => by cases h), kP, fP3, coP, fP4⟩, kP, coP, fP3, fP4, fP1, fP5⟩
    | k + 3, hq => simp [ty3] at hq
  have hS : va_S (fun q : Nat => s.heap.size ≤ q) s.heap s.heap [] := va_S.rf
  have hP : va_P D cls [] s.heap := fun k q h => by simp at h
  have hD : va_D (fun q : Nat => s.heap.size ≤ q) [] := ⟨fun i j p q h => by simp at h, fun k q h => by simp at h⟩
  have hl := lv_entry ([.ref b]) (n := 4) (Nat.le_of_ble_eq_true rfl)
  rw [lg_entry_eq]
  generalize (lg_sl ([.ref b]) ++ List.replicate (4 - (lg_sl ([.ref b])).length) Slot.unset).toArray = ls at hl ⊢
  have hl : lv_has ls 4 [(0, .ref b)] := hl
  refine va_new (D := D) (ci := 1) (fs := [.null]) (C := R_hh) (T := F_hh) (N := 1) hx hb hts i_hh t_hh t_hh_ok hown (hts _ kl_lw_7) (hts _ kb_hh) (hts _ kn_hh) hK hP hD hS hA rfl (fun j hj => by rcases (show j = 0 by omega) with rfl <;> rfl) (by decide) (by decide) d_lw_0 (fun h H hP hD hS => ?_)
  have hP : va_P D cls ([(h, .inr (1, [.null]))]) H := hP
  have hD : va_D (fun q : Nat => s.heap.size ≤ q) ([(h, .inr (1, [.null]))]) := hD
  refine lv_dup hx hb d_lw_3 rfl ?_
  refine cg_IX (hn := 0) (As := []) (rest := [.ref h]) (wr := []) hx hb hml hown hts (c_hh_init l D cI cT cP h) (fun U hW => va_AO.moved hW.alike hoT) (fun U g mk a q => va_AO.moved (u := U) (U := U.calling g mk a) (Vm.Alike.refl U.vm) q) km_lw_9 ki_hh_init kn_hh kc_hh_init rfl (by decide +kernel) rfl ⟨Nat.le_of_ble_eq_true rfl, Nat.le_of_ble_eq_true rfl⟩ hK hP hD hS hA [0] [] rfl (by decide) rfl (by decide) (by decide) hl.1 rfl (Nat.le_of_ble_eq_true rfl) d_lw_4 ⟨by decide, by decide⟩ (fun v u H locs hpost hP hD hS => ?_)
  obtain ⟨r, ft, a0, a1, a2, u0, u1, u2⟩ := u
  obtain ⟨e9, hf0, hf1, hf2, hT0, hT1, hT2⟩ := hpost
  subst e9
  obtain ⟨a, ea⟩ : ∃ a : Nat → Nat, a = fun k => match k with | 0 => a0 | 1 => a1 | _ => a2 := ⟨_, rfl⟩
  obtain ⟨uu, eu⟩ : ∃ uu : Nat → TB, uu = fun k => match k with | 0 => u0 | 1 => u1 | _ => u2 := ⟨_, rfl⟩
  have hP : va_P D cls (HW cI cT h r ft a (fun _ => 0) uu) H := by rw [ea, eu]; exact hP
  have hD : va_D (fun q : Nat => s.heap.size ≤ q) (HW cI cT h r ft a (fun _ => 0) uu) := by rw [ea, eu]; exact hD
  have hft : ∀ k, k < 3 → ft k = some (a k) := fun k hk => by
    rw [ea]
    rcases (show k = 0 ∨ k = 1 ∨ k = 2 by omega) with rfl | rfl | rfl
    · exact hf0
    · exact hf1
    · exact hf2
  have hTT : ∀ k, k < 3 → TL 0 [] (uu k) := fun k hk => by
    rw [eu]
    rcases (show k = 0 ∨ k = 1 ∨ k = 2 by omega) with rfl | rfl | rfl
    · exact hT0
    · exact hT1
    · exact hT2
  clear ea eu hf0 hf1 hf2 hT0 hT1 hT2
  refine W.eq (g2 := F0 m 7 ls [.ref h]) rfl ?_
  refine lv_astore_n (lv' := [(1, .ref h), (0, .ref b)]) hx hb d_lw_7 rfl hl (by decide) rfl (fun ls hl => ?_)
  refine va_new (D := D) (ci := 3) (fs := [.null]) (C := R_md) (T := F_md) (N := 1) hx hb hts i_md t_md t_md_ok hown (hts _ kl_lw_10) (hts _ kb_md) (hts _ kn_md) hK hP hD hS hA rfl (fun j hj => by rcases (show j = 0 by omega) with rfl <;> rfl) (by decide) (by decide) d_lw_8 (fun h2 H hP hD hS => ?_)
  have hP : va_P D cls ((HW cI cT h r ft a (fun _ => 0) uu) ++ [(h2, .inr (3, [.null]))]) H := hP
  have hD : va_D (fun q : Nat => s.heap.size ≤ q) ((HW cI cT h r ft a (fun _ => 0) uu) ++ [(h2, .inr (3, [.null]))]) := hD
  refine lv_dup hx hb d_lw_11 rfl ?_
  refine cg_IX (hn := 0) (As := []) (rest := [.ref h2]) (wr := HW cI cT h r ft a (fun _ => 0) uu) hx hb hml hown hts (c_md_init l D cI cT cP h2) (fun U hW => ⟨va_AO.moved hW.alike hoP, va_Nw.warmM hW hoN⟩) (fun U g mk a q => ⟨va_AO.moved (u := U) (U := U.calling g mk a) (Vm.Alike.refl U.vm) q.1, va_Nw.same rfl (rfl : U.vm = (U.calling g mk a).vm) q.2⟩) km_lw_12 ki_md_init kn_md kc_md_init rfl (by decide +kernel) rfl ⟨Nat.le_of_ble_eq_true rfl, Nat.le_of_ble_eq_true rfl⟩ hK hP hD hS hA [23] [0, 1, 2, 3, 4, 5, 6, 7, 8, 9, 10, 11, 12, 13, 14, 15, 16, 17, 18, 19, 20, 21, 22] rfl (by decide) rfl (by decide) (by decide) hl.1 rfl (Nat.le_of_ble_eq_true rfl) d_lw_12 ⟨by decide, by decide⟩ (fun v u H locs hpost hP hD hS => ?_)
  obtain ⟨r2, ft2, g0, g1, g2, v0, v1, v2⟩ := u
  obtain ⟨e9, hf0, hf1, hf2, hT0, hT1, hT2⟩ := hpost
  subst e9
  obtain ⟨g, eg⟩ : ∃ g : Nat → Nat, g = fun k => match k with | 0 => g0 | 1 => g1 | _ => g2 := ⟨_, rfl⟩
  obtain ⟨vv, ev⟩ : ∃ vv : Nat → PB, vv = fun k => match k with | 0 => v0 | 1 => v1 | _ => v2 := ⟨_, rfl⟩
  have hP : va_P D cls (HW cI cT h r ft a (fun _ => 0) uu ++ MW cI cP h2 r2 ft2 g (fun _ => 0) vv) H := by rw [eg, ev]; exact hP
  have hD : va_D (fun q : Nat => s.heap.size ≤ q) (HW cI cT h r ft a (fun _ => 0) uu ++ MW cI cP h2 r2 ft2 g (fun _ => 0) vv) := by rw [eg, ev]; exact hD
  have hft2 : ∀ k, k < 3 → ft2 k = some (g k) := fun k hk => by
    rw [eg]
    rcases (show k = 0 ∨ k = 1 ∨ k = 2 by omega) with rfl | rfl | rfl
    · exact hf0
    · exact hf1
    · exact hf2
  have hPP : ∀ k, k < 3 → PL 0 [] (vv k) := fun k hk => by
    rw [ev]
    rcases (show k = 0 ∨ k = 1 ∨ k = 2 by omega) with rfl | rfl | rfl
    · exact hT0
    · exact hT1
    · exact hT2
  clear eg ev hf0 hf1 hf2 hT0 hT1 hT2
  refine W.eq (g2 := F0 m 15 ls [.ref h2]) rfl ?_
  refine lv_astore_n (lv' := [(2, .ref h2), (1, .ref h), (0, .ref b)]) hx hb d_lw_15 rfl hl (by decide) rfl (fun ls hl => ?_)
  refine lv_iconst (v := 0) hx hb d_lw_16 (by decide) ?_
  refine lv_istore_n (lv' := [(3, .int 0), (2, .ref h2), (1, .ref h), (0, .ref b)]) hx hb d_lw_17 rfl hl (by decide) rfl (fun ls hl => ?_)
  have hE : ∀ n i : Nat, n ≤ 512 → LNx p l e s m below meth c D cI cT cP b h r ft a h2 r2 ft2 g (lw_Z below #[Value.ref b] s) n i 713 := by
    intro n i hn LL jj uu ii vv hI H locs hP hD hS ls hl
    have hc1 := c_7 (jj := jj) (fun k hk => tl_7 (hI.1 k hk).1)
    have hc2 := c_7 (jj := ii) (fun k hk => pl_7 (hI.1 k hk).2.1)
    refine lv_iconst (v := 1) hx hb d_lw_713 (by decide) ?_
    refine va_forget (fun q hq => hS.2.2 q hq) ?_
    have hrc : 1000 ≤ room_1.cells := by decide
    have hrs : 400000 ≤ room_1.slots := by decide
    refine W.widen (k := room_1.cells) (n := room_1.slots) (by omega) (by omega) ?_
    exact lw_ret hx hb hr hlocks d_lw_714
  refine W.widen (k := 43 + cA_ (fun _ => 0) + cR (fun _ => 0)) (n := 596 + sA_ (fun _ => 0) + sR (fun _ => 0)) (by show 43 ≤ _; omega) (by show 596 ≤ _; omega) ?_
  exact law_loop p l e s m below meth c D cI cT cP b h r ft a h2 r2 ft2 g (lw_Z below #[Value.ref b] s) hx hb hml hown hts hX hbl hK hft hft2 hL hE 513 0 (by omega) (by omega) (fun _ => []) (fun _ => 0) uu (fun _ => 0) vv ⟨fun k hk => ⟨hTT k hk, hPP k hk, Nat.zero_le _⟩, by decide⟩ H locs hP hD hS ls (lv_sub hl [3, 2, 1, 0] rfl)
-- ===== YOUR PART ENDS =====
set_option maxHeartbeats 4000000 in
theorem lw_walk (l : Launch) (b : Addr) (xs : List Int32) : MetFree l x (headSpec (Jvm.Cond.code x code maxLocals ret :: tables_1) room_1) (lw_P b xs) (fun _ _ _ _ _ => True) lw_Q := by
  refine MetFree.of_bodyS (code := code) (maxLocals := maxLocals) (ret := ret) (by decide) ?_ ?_
  · intro args s m h hn
    obtain ⟨meth, c, h1, h2, h3, h4, h5, h6, -, -⟩ := Cond.code_spec hn (atoms_spec (ws := Jvm.Cond.code x code maxLocals ret :: tables_1) h _ List.mem_cons_self)
    exact ⟨meth, c, h1, h2, h3, h4, h5, h6⟩
  · intro p e s m args below meth c s₁ B hml0 hP _
    obtain ⟨rfl, hx, hbd, hgv⟩ := hP
    obtain ⟨scr, harrAt, hlist, hof, hsmall⟩ := hx
    obtain ⟨hcb, hkn, -, -⟩ := State.arrayAt?_spec harrAt
    have hown : s.vm.findClass R_law = some m.cls := findClass_of_methodNamed B.named
    have hts0 : ∀ c ∈ (Jvm.Cond.code x code maxLocals ret :: tables_1), c.before #[Value.ref b] s = true := atoms_spec (ws := Jvm.Cond.code x code maxLocals ret :: tables_1) B.pre
    have hts : ∀ w ∈ lw_tbl, w.before #[Value.ref b] s = true := k2_hts_sels lw_privs (fun w hw => hts0 w (List.mem_cons_of_mem _ hw)) lw_privs_ok
    have hml : c.maxLocals = 4 := B.maxLocals_eq (hts0 _ List.mem_cons_self)
    have X₀ : Stand p l e room_1 s m #[Value.ref b] below meth c s₁ [] 0 0 := Stand.of_body B
    have hh0 : s₁.heap = s.heap := by rw [B.state]; rfl
    have hsz : scr.slots.size = xs.length := by rw [← Array.length_toList, hlist, List.length_map]
    have hval : ∀ j : Nat, j < xs.length → scr.slots[j]? = some (.int (xs.getD j 0)) := fun j hj => by
      rw [← Array.getElem?_toList, hlist]
      simp [hj]
    have hbl : b < s.heap.size := (Array.getElem?_eq_some_iff.mp hcb).1
    have hX : va_X b xs.length (fun j => xs.getD j 0) s s.heap := ⟨scr, hcb, hof, hkn, hsz, hval⟩
    have K : W p l e room_1 s m #[Value.ref b] below meth c s₁.heap [] 0 0 (lw_Z below #[Value.ref b] s) (entryFrame m ([Value.ref b] : List Value).toArray 4) := by
      rw [hh0]
      exact whole_start l hbd ⟨B.exec, B.bytes, B.returns, hml, hown, hts, hX, hbl, B.notSynchronized, hgv⟩
    obtain ⟨t, a1, o, b1, b2, b3⟩ := K s₁ rfl X₀
    exact ⟨t, o, a1, b1, b2, b3⟩
theorem lw_pre_spec {args : Array Value} {s : State} (h : (Jvm.Cond.and given_1 narrow_1).before args s = true) (hr : rest_1_c.before args s = true) : ∃ (b : Addr) (xs : List Int32), lw_P b xs args s := by
  have hs := flat_of_before _ h
  have hq := flat_of_before _ hr
  have hc : (Cond.count 1).before args s = true := hs _ (by decide +kernel)
  have harr : (Cond.arrayOf (.arg 0) .int).before args s = true := hs _ (by decide +kernel)
  have hle : (Cond.le (.length (.arg 0)) (.int 2560)).before args s = true := hs _ (by decide +kernel)
  have hlen : (Cond.isInt (.length (.arg 0))).before args s = true := hq _ (by decide +kernel)
  have hall : (Cond.all (.arg 0) (.isInt (.elem (.arg 0) (.index 0)))).before args s = true := hq _ (by decide +kernel)
  obtain ⟨b, xs, hb, hx⟩ := State.ints_of_pre rfl harr hlen hall
  have hsm : xs.length < 2 ^ 31 := hx.choose_spec.2.2.2
  have hev : (Term.length (.arg 0)).eval args s none [] s = some (.int xs.length.toInt32) := hx.length_eval hb
  have hv := Cond.le_ints hev (show (Term.int 2560).eval args s none [] s = some (.int 2560) from rfl)
  have hd : xs.length.toInt32 ≤ 2560 := by
    simpa [Cond.before, Cond.holds, hv] using hle
  have hN : xs.length ≤ 2560 := (Int32.ofNat_le_ofNat hsm (by decide)).mp (show Int32.ofNat xs.length ≤ Int32.ofNat 2560 from hd)
  exact ⟨b, xs, Cond.one_arg hc (show args[0]? = some (.ref b) from hb), hx, hN, h⟩
theorem lw_comes (l : Launch) : Comes l x (Jvm.Cond.code x code maxLocals ret :: tables_1) room_1 (fun tb e args s => Calls_1 tb e args s ∧ rest_1 tb e args s ∧ Pre_1 tb e args s)
    (fun _ _ args s o t => lw_Q args s o t) := by
  intro p e ha hc hk s m args below hf hfit hheap happ hpre
  obtain ⟨b, xs, hP⟩ := lw_pre_spec hpre.2.2 hpre.2.1
  obtain ⟨k, o, h1, h2, h3, hQ⟩ := lw_walk l b xs p e ha hc hk s m args below hf ((Spec.applies_iff_loose hf).mp happ).1 hP trivial
  exact ⟨k, o, h1, h2, h3, hQ⟩
theorem lw_frame {s t : State} {o : Outcome} {args : Array Value} (h : Framed s o t [] room_1.cells room_1.slots) :
    Framed s o t (fieldLocs frame_1_writes args s ++ arrayLocs frame_1_arrays args s ++ staticLocs frame_1_statics s) room_1.cells room_1.slots := h
theorem lw_limb (L : Cond) (hL : ∀ (args : Array Value) (s t : State), L.after args s (.returned (some (.int 1))) t = true) :
    ArmFor flags0 classFile x code maxLocals ret World_1 tables_1 room_1 Calls_1 rest_1 Pre_1
      (fun tb e a s o t => postC L tb e a s o t ∧ Framed s o t (fieldLocs frame_1_writes a s ++ arrayLocs frame_1_arrays a s ++ staticLocs frame_1_statics s) room_1.cells room_1.slots) := by
  intro l _ _ _ p e ha hc hk s m args below hf hfit hheap happ hpre
  obtain ⟨k, o, h1, h2, h3, rfl, hF⟩ := lw_comes l p e ha hc hk s m args below hf hfit hheap happ hpre
  exact ⟨k, _, h1, h2, h3, hL args s _, lw_frame hF⟩
theorem i_vc : Claimed_1_1 ∧ Claimed_1_2 := ⟨lw_limb limb_1_1 (fun args s t => by simp [limb_1_1, Cond.after, Cond.holds, Cond.value]), lw_limb limb_1_2 (fun args s t => Cond.after_iff.mpr (by
  first | (rw [show limb_1_2 = Cond.eq .result (.int 1) from rfl, Cond.eq_ints (x := 1) (y := 1) rfl rfl]; simp; done) | (simp [limb_1_2, Cond.value, Term.eval]; done)))⟩
