-- The state of a Table, pure: numbers and slots (TA), the ring (TN), the chains (TH)
/-- the mixed key -/
def mx (k : Int32) : Int32 := (k ^^^ (k.toUInt32 >>> ((16 : Int32).toUInt32 &&& Int32.toUInt32 31)).toInt32) * (-1640531527)
def mxx (k : Int32) : Int32 := mx k ^^^ ((mx k).toUInt32 >>> ((16 : Int32).toUInt32 &&& Int32.toUInt32 31)).toInt32
/-- the head of a key's chain among n = 2 ^ t heads -/
def hof (n : Nat) (k : Int32) : Nat := (mxx k).toBitVec.toNat % n
theorem hof_lt {n : Nat} (h : 0 < n) (k : Int32) : hof n k < n := Nat.mod_lt _ h
theorem hof_and {n t : Nat} (e : n = 2 ^ t) (ht : t ≤ 30) (k : Int32) : mxx k &&& (nI n - 1) = nI (hof n k) := by
  have h1 : 0 < n := by rw [e]; exact Nat.two_pow_pos t
  have h2 : n < 2 ^ 31 := by rw [e]; exact Nat.pow_lt_pow_right (by decide) (by omega)
  have h3 : nI n - 1 = nI (n - 1) := by
    have := nI_pred (n - 1)
    rwa [Nat.sub_add_cancel h1] at this
  rw [h3]
  unfold hof
  rw [e]
  refine pk_and (mxx k) t ?_
  rw [pk_tn (by rw [← e]; omega)]
def TA (n j m : Nat) (R Fr : List Nat) : Prop := (n = 2 ^ (4 + j) ∧ j ≤ 7) ∧ m < n ∧ (R ++ Fr).Nodup ∧ (∀ x, x ∈ R ++ Fr ↔ 1 ≤ x ∧ x ≤ m) ∧ R.length + Fr.length = m
def TN (P N : Nat → Int32) (R : List Nat) : Prop := sg N (N 0) R 0 ∧ sg P (P 0) R.reverse 0
def TH (n : Nat) (K G C : Nat → Int32) (fl : Int32) (R Fr : List Nat) (bl : Nat → List Nat) : Prop := sg C fl Fr 0 ∧ ∀ h, h < n → sg C (G h) (bl h) 0 ∧ (bl h).Perm (R.filter (fun x => decide (hof n (K x) = h)))
theorem ta_n {n j m : Nat} {R Fr : List Nat} (h : TA n j m R Fr) : 16 ≤ n ∧ n ≤ 2048 := by
  obtain ⟨⟨e, hj⟩, _⟩ := h
  have h1 : 2 ^ 4 ≤ 2 ^ (4 + j) := Nat.pow_le_pow_right (by decide) (by omega)
  have h2 : 2 ^ (4 + j) ≤ 2 ^ 11 := Nat.pow_le_pow_right (by decide) (by omega)
  omega
theorem ta_in {n j m : Nat} {R Fr : List Nat} (h : TA n j m R Fr) {x : Nat} (hx : x ∈ R) : 1 ≤ x ∧ x ≤ m ∧ x < n := by
  have h1 := (h.2.2.2.1 x).mp (List.mem_append_left _ hx)
  have h2 := h.2.1
  omega
theorem ta_inF {n j m : Nat} {R Fr : List Nat} (h : TA n j m R Fr) {x : Nat} (hx : x ∈ Fr) : 1 ≤ x ∧ x ≤ m ∧ x < n := by
  have h1 := (h.2.2.2.1 x).mp (List.mem_append_right _ hx)
  have h2 := h.2.1
  omega
theorem ta_nd {n j m : Nat} {R Fr : List Nat} (h : TA n j m R Fr) : R.Nodup := (List.nodup_append.mp h.2.2.1).1
theorem ta_nd0 {n j m : Nat} {R Fr : List Nat} (h : TA n j m R Fr) : (0 :: R).Nodup := List.nodup_cons.mpr ⟨fun z => absurd (ta_in h z).1 (by omega), ta_nd h⟩
theorem ta_hd {n j m : Nat} {R Fr l1 l2 : List Nat} (h : TA n j m R Fr) (e : R = l1 ++ l2) : hd_ 0 l2 < n := by
  have h1 := ta_n h
  have h2 := hd_mem 0 l2
  rcases List.mem_cons.mp h2 with h3 | h3
  · omega
  · exact (ta_in h (x := hd_ 0 l2) (by rw [e]; exact List.mem_append_right _ h3)).2.2
theorem ta_ls {n j m : Nat} {R Fr l1 l2 : List Nat} (h : TA n j m R Fr) (e : R = l1 ++ l2) : ls_ 0 l1 < n := by
  have h1 := ta_n h
  have h2 := ls_mem 0 l1
  rcases List.mem_cons.mp h2 with h3 | h3
  · omega
  · exact (ta_in h (x := ls_ 0 l1) (by rw [e]; exact List.mem_append_left _ h3)).2.2
theorem ta_perm {n j m : Nat} {R R' Fr : List Nat} (h : TA n j m R Fr) (p : R'.Perm R) : TA n j m R' Fr := by
  obtain ⟨a, b, c, d, e⟩ := h
  have pp : (R' ++ Fr).Perm (R ++ Fr) := p.append_right Fr
  exact ⟨a, b, pp.nodup_iff.mpr c, fun x => pp.mem_iff.trans (d x), by rw [p.length_eq]; exact e⟩
theorem th_perm {n : Nat} {K G C : Nat → Int32} {fl : Int32} {R R' Fr : List Nat} {bl : Nat → List Nat} (h : TH n K G C fl R Fr bl) (p : R'.Perm R) : TH n K G C fl R' Fr bl :=
  ⟨h.1, fun z hz => ⟨(h.2 z hz).1, (h.2 z hz).2.trans (p.filter _).symm⟩⟩
/-- a slot of R is taken out of the ring -/
theorem tn_cut {P N : Nat → Int32} {l1 l2 : List Nat} {x : Nat} (nd : (0 :: (l1 ++ x :: l2)).Nodup) (h : TN P N (l1 ++ x :: l2)) : P x = nI (ls_ 0 l1) ∧ N x = nI (hd_ 0 l2) ∧ TN (upd P (hd_ 0 l2) (nI (ls_ 0 l1))) (upd N (ls_ 0 l1) (nI (hd_ 0 l2))) (l1 ++ l2) := by
  obtain ⟨hN, hP⟩ := h
  have e1 : N x = nI (hd_ 0 l2) := sg_hd0 (sg_app.mp hN).2
  have er : (l1 ++ x :: l2).reverse = l2.reverse ++ x :: l1.reverse := by simp
  rw [er] at hP
  have e2 : P x = nI (ls_ 0 l1) := by
    have := sg_hd0 (sg_app.mp hP).2
    rwa [hd_rev] at this
  have ndr : (0 :: (l2.reverse ++ x :: l1.reverse)).Nodup := by
    have h1 := List.nodup_cons.mp nd
    rw [← er]
    exact List.nodup_cons.mpr ⟨fun z => h1.1 (List.mem_reverse.mp z), (List.reverse_perm _).nodup_iff.mpr h1.2⟩
  have a := sg_cut nd hN
  have b := sg_cut ndr hP
  rw [e1] at a
  rw [e2, ls_rev] at b
  refine ⟨e2, e1, a, ?_⟩
  have er2 : (l1 ++ l2).reverse = l2.reverse ++ l1.reverse := by simp
  rw [er2]
  exact b
/-- a slot comes last in the ring -/
theorem tn_add {P N : Nat → Int32} {R : List Nat} {i : Nat} (nd : (0 :: R).Nodup) (hi : i ∉ 0 :: R) (h : TN P N R) : P 0 = nI (ls_ 0 R) ∧ TN (upd (upd P i (nI (ls_ 0 R))) 0 (nI i)) (upd (upd N (ls_ 0 R) (nI i)) i 0) (R ++ [i]) := by
  have e : P 0 = nI (ls_ 0 R) := by
    have := sg_hd0 h.2
    rwa [hd_rev] at this
  have h0 : i ≠ 0 := fun z => hi (by rw [z]; exact List.mem_cons_self ..)
  have hR : i ∉ R := fun z => hi (List.mem_cons_of_mem _ z)
  have h0R : 0 ∉ R := (List.nodup_cons.mp nd).1
  refine ⟨e, sg_snoc nd hi h.1, ?_⟩
  have er : (R ++ [i]).reverse = i :: R.reverse := by simp
  rw [er]
  refine ⟨pk_us, ?_⟩
  rw [pk_un h0, pk_us]
  refine sg_upd (fun z => h0R (List.mem_reverse.mp z)) (sg_upd (fun z => hR (List.mem_reverse.mp z)) ?_)
  rw [← e]
  exact h.2
/-- a chain gets a new first slot -/
def blA (bl : Nat → List Nat) (h0 i : Nat) : Nat → List Nat := fun h => if h = h0 then i :: bl h else bl h
theorem blA_s {bl : Nat → List Nat} {h0 i : Nat} : blA bl h0 i h0 = i :: bl h0 := if_pos rfl
theorem blA_n {bl : Nat → List Nat} {h0 i h : Nat} (c : h ≠ h0) : blA bl h0 i h = bl h := if_neg c
theorem th_add {n : Nat} {K G C : Nat → Int32} {fl k : Int32} {R Fr : List Nat} {bl : Nat → List Nat} {i : Nat} (hiR : i ∉ R) (hiF : i ∉ Fr) (h : TH n K G C fl R Fr bl) : TH n (upd K i k) (upd G (hof n k) (nI i)) (upd C i (G (hof n k))) fl (R ++ [i]) Fr (blA bl (hof n k) i) := by
  refine ⟨sg_upd hiF h.1, fun z hz => ?_⟩
  obtain ⟨h1, h2⟩ := h.2 z hz
  have hib : i ∉ bl z := fun y => hiR (List.mem_filter.mp (h2.mem_iff.mp y)).1
  have ef : R.filter (fun x => decide (hof n (upd K i k x) = z)) = R.filter (fun x => decide (hof n (K x) = z)) :=
    List.filter_congr (fun x hx => by rw [pk_un (fun e => hiR (by rw [← e]; exact hx))])
  rw [List.filter_append, ef]
  by_cases c : z = hof n k
  · have e1 : List.filter (fun x => decide (hof n (upd K i k x) = z)) [i] = [i] := List.filter_eq_self.mpr (fun a ha => by
      have : a = i := by simpa using ha
      rw [this, pk_us]
      exact decide_eq_true c.symm)
    rw [e1]
    have e2 : blA bl (hof n k) i z = i :: bl z := by rw [c]; exact blA_s
    rw [e2]
    refine ⟨⟨?_, ?_⟩, (List.Perm.cons i h2).trans (List.perm_append_singleton i _).symm⟩
    · rw [c]; exact pk_us
    · rw [pk_us, ← c]; exact sg_upd hib h1
  · have e1 : List.filter (fun x => decide (hof n (upd K i k x) = z)) [i] = [] := List.filter_eq_nil_iff.mpr (fun a ha => by
      have : a = i := by simpa using ha
      rw [this, pk_us]
      simp
      exact fun q => c q.symm)
    rw [e1, List.append_nil, blA_n c, pk_un c]
    exact ⟨sg_upd hib h1, h2⟩
theorem th_bl {n : Nat} {K G C : Nat → Int32} {fl : Int32} {R Fr : List Nat} {bl : Nat → List Nat} (h : TH n K G C fl R Fr bl) {z : Nat} (hz : z < n) {x : Nat} : x ∈ bl z ↔ x ∈ R ∧ hof n (K x) = z := by
  rw [(h.2 z hz).2.mem_iff, List.mem_filter]
  simp
theorem th_len {n : Nat} {K G C : Nat → Int32} {fl : Int32} {R Fr : List Nat} {bl : Nat → List Nat} (h : TH n K G C fl R Fr bl) {z : Nat} (hz : z < n) : (bl z).length ≤ R.length := by
  rw [(h.2 z hz).2.length_eq]
  exact List.length_filter_le ..
theorem th_nd {n : Nat} {K G C : Nat → Int32} {fl : Int32} {R Fr : List Nat} {bl : Nat → List Nat} (h : TH n K G C fl R Fr bl) (nd : R.Nodup) {z : Nat} (hz : z < n) : (bl z).Nodup :=
  (h.2 z hz).2.nodup_iff.mpr (nd.sublist List.filter_sublist)
/-- what unhook makes of heads and chains -/
def cG (G C : Nat → Int32) (h0 x : Nat) : List Nat → Nat → Int32
  | [] => upd G h0 (C x)
  | _ :: _ => G
def cC (C : Nat → Int32) (x : Nat) : List Nat → Nat → Int32
  | [] => C
  | y :: t => upd C (ls_ y t) (C x)
def blD (bl : Nat → List Nat) (h0 : Nat) (l : List Nat) : Nat → List Nat := fun h => if h = h0 then l else bl h
theorem cC_out {C : Nat → Int32} {x z : Nat} {c1 : List Nat} (h : z ∉ c1) : cC C x c1 z = C z := by
  cases c1 with
  | nil => rfl
  | cons y t => exact pk_un (fun e => h (by rw [e]; exact ls_mem y t))
theorem th_del {n : Nat} {K G C : Nat → Int32} {fl : Int32} {l1 l2 Fr c1 c2 : List Nat} {bl : Nat → List Nat} {x : Nat} (hn : 0 < n) (nd : ((l1 ++ x :: l2) ++ Fr).Nodup) (h : TH n K G C fl (l1 ++ x :: l2) Fr bl) (hc : bl (hof n (K x)) = c1 ++ x :: c2) :
    TH n K (cG G C (hof n (K x)) x c1) (upd (cC C x c1) x fl) (nI x) (l1 ++ l2) (x :: Fr) (blD bl (hof n (K x)) (c1 ++ c2)) := by
  have hz0 : hof n (K x) < n := hof_lt hn _
  have ndR : (l1 ++ x :: l2).Nodup := (List.nodup_append.mp nd).1
  have dis : ∀ y, y ∈ l1 ++ x :: l2 → y ∉ Fr := fun y h1 h2 => (List.nodup_append.mp nd).2.2 y h1 y h2 rfl
  have hxR : x ∈ l1 ++ x :: l2 := List.mem_append_right _ (List.mem_cons_self ..)
  have ndc : (c1 ++ x :: c2).Nodup := by rw [← hc]; exact th_nd h ndR hz0
  have hcR : ∀ y, y ∈ c1 ++ x :: c2 → y ∈ l1 ++ x :: l2 ∧ hof n (K y) = hof n (K x) := fun y hy => (th_bl h hz0).mp (by rw [hc]; exact hy)
  obtain ⟨q1, q2, q3⟩ := List.nodup_append.mp ndc
  have hx1 : x ∉ c1 := fun z => q3 x z x (List.mem_cons_self ..) rfl
  have hx2 : x ∉ c2 := (List.nodup_cons.mp q2).1
  refine ⟨⟨rfl, ?_⟩, fun z hz => ?_⟩
  · rw [pk_us]
    refine sg_upd (dis x hxR) (sg_cong (fun y hy => cC_out (fun q => ?_)) h.1)
    exact dis y (hcR y (List.mem_append_left _ q)).1 hy
  obtain ⟨h1, h2⟩ := h.2 z hz
  by_cases c : z = hof n (K x)
  · have e1 : blD bl (hof n (K x)) (c1 ++ c2) z = c1 ++ c2 := if_pos c
    rw [e1]
    rw [c, hc] at h1
    rw [c, hc] at h2
    refine ⟨sg_upd (fun q => ?_) ?_, ?_⟩
    · rcases List.mem_append.mp q with q | q
      · exact hx1 q
      · exact hx2 q
    · rw [c]
      cases c1 with
      | nil =>
        show sg C (upd G _ (C x) _) c2 0
        rw [pk_us]
        exact h1.2
      | cons y t =>
        have h3 := sg_cut (f := C) (s := y) (x := x) (l1 := t) (l2 := c2) (e := 0) ndc h1.2
        exact ⟨h1.1, h3⟩
    · have e2 : (l1 ++ x :: l2).filter (fun y => decide (hof n (K y) = hof n (K x))) = l1.filter (fun y => decide (hof n (K y) = hof n (K x))) ++ x :: l2.filter (fun y => decide (hof n (K y) = hof n (K x))) := by
        rw [List.filter_append, List.filter_cons_of_pos (by simp)]
      rw [e2] at h2
      rw [c, List.filter_append]
      exact ((List.perm_middle.symm.trans h2).trans List.perm_middle).cons_inv
  · have e1 : blD bl (hof n (K x)) (c1 ++ c2) z = bl z := if_neg c
    rw [e1]
    have hout : ∀ y, y ∈ bl z → y ∉ c1 ++ x :: c2 := fun y hy q => c (((th_bl h hz).mp hy).2.symm.trans (hcR y q).2)
    refine ⟨?_, ?_⟩
    · have e3 : cG G C (hof n (K x)) x c1 z = G z := by
        cases c1 with
        | nil => exact pk_un c
        | cons y t => rfl
      rw [e3]
      refine sg_upd (fun q => hout x q (List.mem_append_right _ (List.mem_cons_self ..))) (sg_cong (fun y hy => cC_out (fun q => hout y hy (List.mem_append_left _ q))) h1)
    · have e2 : (l1 ++ x :: l2).filter (fun y => decide (hof n (K y) = z)) = l1.filter (fun y => decide (hof n (K y) = z)) ++ l2.filter (fun y => decide (hof n (K y) = z)) := by
        rw [List.filter_append, List.filter_cons_of_neg (by simp; exact fun q => c q.symm)]
      rw [e2] at h2
      rw [List.filter_append]
      exact h2
/-- keys apart: one slot a key -/
theorem nd_inj {K : Nat → Int32} {R : List Nat} (nd : (R.map K).Nodup) {x y : Nat} (hx : x ∈ R) (hy : y ∈ R) (e : K x = K y) : x = y := by
  induction R with
  | nil => exact absurd hx List.not_mem_nil
  | cons z R ih =>
    have h := List.nodup_cons.mp nd
    rcases List.mem_cons.mp hx with h1 | h1
    · rcases List.mem_cons.mp hy with h2 | h2
      · rw [h1, h2]
      · exact absurd (List.mem_map_of_mem (f := K) h2) (by rw [← e, h1]; exact h.1)
    · rcases List.mem_cons.mp hy with h2 | h2
      · exact absurd (List.mem_map_of_mem (f := K) h1) (by rw [e, h2]; exact h.1)
      · exact ih h.2 h1 h2
theorem sl_eq {K : Nat → Int32} {k : Int32} {R : List Nat} (nd : (R.map K).Nodup) {x : Nat} (hx : x ∈ R) (e : K x = k) : sl K k R = x := by
  rcases sl_cases K k R with h | h
  · exact absurd (List.mem_map.mpr ⟨x, hx, e⟩) h.2
  · exact nd_inj nd h.1 hx (h.2.trans e.symm)
theorem sl_none {K : Nat → Int32} {k : Int32} {R : List Nat} (h : k ∉ R.map K) : sl K k R = 0 := by
  rcases sl_cases K k R with q | q
  · exact q.1
  · exact absurd (List.mem_map.mpr ⟨_, q.1, q.2⟩) h
/-- freeSlot, drop, insert: the slots -/
theorem ta_del {n j m : Nat} {l1 l2 Fr : List Nat} {x : Nat} (h : TA n j m (l1 ++ x :: l2) Fr) : TA n j m (l1 ++ l2) (x :: Fr) := by
  obtain ⟨a, b, c, d, e⟩ := h
  have p : ((l1 ++ l2) ++ x :: Fr).Perm ((l1 ++ x :: l2) ++ Fr) := by
    refine List.perm_middle.trans ?_
    refine List.Perm.trans ?_ (List.Perm.append_right Fr List.perm_middle.symm)
    exact List.Perm.refl _
  refine ⟨a, b, p.nodup_iff.mpr c, fun y => p.mem_iff.trans (d y), ?_⟩
  simp only [List.length_append, List.length_cons] at e ⊢
  omega
theorem ta_take {n j m : Nat} {R Fr : List Nat} {x : Nat} (h : TA n j m R (x :: Fr)) : TA n j m (R ++ [x]) Fr := by
  obtain ⟨a, b, c, d, e⟩ := h
  have p : (R ++ [x]) ++ Fr = R ++ x :: Fr := by simp
  refine ⟨a, b, by rw [p]; exact c, fun y => by rw [p]; exact d y, ?_⟩
  simp only [List.length_append, List.length_cons, List.length_nil] at e ⊢
  omega
theorem ta_make {n j m : Nat} {R : List Nat} (h : TA n j m R []) (hm : m + 1 < n) : TA n j (m + 1) (R ++ [m + 1]) [] := by
  obtain ⟨a, b, c, d, e⟩ := h
  rw [List.append_nil] at c d
  refine ⟨a, hm, ?_, fun y => ?_, ?_⟩
  · rw [List.append_nil]
    refine List.nodup_append.mpr ⟨c, by simp, fun y hy z hz q => ?_⟩
    have h1 := (d y).mp hy
    have h2 : z = m + 1 := by simpa using hz
    omega
  · rw [List.append_nil]
    constructor
    · intro hy
      rcases List.mem_append.mp hy with hy | hy
      · have := (d y).mp hy
        omega
      · have h2 : y = m + 1 := by simpa using hy
        omega
    · intro hy
      by_cases q : y = m + 1
      · rw [q]; exact List.mem_append_right _ (by simp)
      · exact List.mem_append_left _ ((d y).mpr (by omega))
  · simp only [List.length_append, List.length_cons, List.length_nil] at e ⊢
    omega
theorem ta_grow {n j m : Nat} {R Fr : List Nat} (h : TA n j m R Fr) (hl : R.length + 1 = n) (hj : j < 7) : Fr = [] ∧ m = R.length ∧ TA (2 * n) (j + 1) m R [] := by
  obtain ⟨⟨a1, a2⟩, b, c, d, e⟩ := h
  have h1 : Fr = [] := List.eq_nil_of_length_eq_zero (by omega)
  subst h1
  refine ⟨rfl, by simp at e; omega, ⟨by rw [a1]; rw [← Nat.add_assoc, Nat.pow_succ]; omega, by omega⟩, by omega, c, d, e⟩
/-- all slots hooked anew -/
def blR (n : Nat) (K : Nat → Int32) (s : Nat) : Nat → List Nat := fun h => ((List.range' 1 s).reverse).filter (fun x => decide (hof n (K x) = h))
