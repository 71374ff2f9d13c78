-- The state of a Pairs, pure: places (PA), the order (PN), the sorted row (PS)
theorem upd_comm {f : Nat → Int32} {a b : Nat} {x y : Int32} (h : a ≠ b) : upd (upd f a x) b y = upd (upd f b y) a x := by
  funext j
  by_cases c1 : j = a
  · subst c1
    rw [pk_un h, pk_us, pk_us]
  · rw [pk_un (f := upd f b y) c1]
    by_cases c2 : j = b
    · subst c2
      rw [pk_us, pk_us]
    · rw [pk_un c2, pk_un c1, pk_un c2]
def cN (f : Nat → Int32) (a v : Int32) : List Nat → (Nat → Int32) × Int32
  | [] => (f, v)
  | y :: t => (upd f (ls_ y t) v, a)
theorem sg_cutv {f : Nat → Int32} {a e : Int32} {l1 l2 : List Nat} {x : Nat} (nd : (l1 ++ x :: l2).Nodup) (h : sg f a (l1 ++ x :: l2) e) : sg (cN f a (f x) l1).1 (cN f a (f x) l1).2 (l1 ++ l2) e := by
  cases l1 with
  | nil => exact h.2
  | cons y t => exact ⟨h.1, sg_cut (s := y) nd h.2⟩
/-- the last's successor, or the first -/
def cL (f : Nat → Int32) (a v : Int32) (i : Nat) : List Nat → (Nat → Int32) × Int32
  | [] => (upd f i v, nI i)
  | y :: t => (upd (upd f i v) (ls_ y t) (nI i), a)
theorem sg_snocv {f : Nat → Int32} {a e : Int32} {l : List Nat} {i : Nat} (nd : l.Nodup) (hi : i ∉ l) (h : sg f a l e) : sg (cL f a e i l).1 (cL f a e i l).2 (l ++ [i]) e := by
  cases l with
  | nil => exact ⟨rfl, pk_us⟩
  | cons y t =>
    have h1 : i ≠ ls_ y t := fun z => hi (by rw [z]; exact ls_mem y t)
    have h2 := sg_snoc (s := y) nd hi h.2
    rw [← upd_comm h1] at h2
    exact ⟨h.1, h2⟩
def PA (n j m : Nat) (R Fr : List Nat) : Prop := (n = 2 ^ (4 + j) ∧ j ≤ 7) ∧ m ≤ n ∧ (R ++ Fr).Nodup ∧ (∀ x, x ∈ R ++ Fr ↔ x < m) ∧ R.length + Fr.length = m
def PN (P N : Nat → Int32) (fi la : Int32) (R : List Nat) : Prop := sg N fi R (-1) ∧ sg P la R.reverse (-1)
def PS (K Z : Nat → Int32) (R Sp : List Nat) : Prop := Sp.Perm R ∧ Sp.Pairwise (fun x y => K x < K y) ∧ ∀ i, i < Sp.length → Z i = nI (Sp.getD i 0)
/-- the number of smaller keys -/
def rk (K : Nat → Int32) (k : Int32) (Sp : List Nat) : Nat := (Sp.filter (fun x => decide (K x < k))).length
theorem rk_le {K : Nat → Int32} {k : Int32} {Sp : List Nat} : rk K k Sp ≤ Sp.length := List.length_filter_le ..
theorem rk_iff {K : Nat → Int32} {k : Int32} {Sp : List Nat} (hs : Sp.Pairwise (fun x y => K x < K y)) {i : Nat} (hi : i < Sp.length) : K (Sp.getD i 0) < k ↔ i < rk K k Sp := by
  induction Sp generalizing i with
  | nil => exact absurd hi (Nat.not_lt_zero _)
  | cons x t ih =>
    have h := List.pairwise_cons.mp hs
    by_cases c : K x < k
    · have e : rk K k (x :: t) = rk K k t + 1 := by
        unfold rk
        rw [List.filter_cons_of_pos (by simpa using c)]
        rfl
      rw [e]
      cases i with
      | zero => exact ⟨fun _ => Nat.succ_pos _, fun _ => c⟩
      | succ i =>
        have h2 := ih h.2 (i := i) (Nat.lt_of_succ_lt_succ hi)
        show K (t.getD i 0) < k ↔ _
        rw [h2]
        omega
    · have ht : ∀ y, y ∈ t → ¬ K y < k := fun y hy z => c (by
        have h3 := h.1 y hy
        rw [Int32.lt_iff_toInt_lt] at h3 z ⊢
        omega)
      have e : rk K k (x :: t) = 0 := by
        unfold rk
        rw [List.filter_cons_of_neg (by simpa using c), List.filter_eq_nil_iff.mpr (fun y hy => by simpa using ht y hy)]
        rfl
      rw [e]
      refine ⟨fun z => absurd z ?_, fun z => absurd z (Nat.not_lt_zero _)⟩
      cases i with
      | zero => exact c
      | succ i =>
        have hi' : i < t.length := Nat.lt_of_succ_lt_succ hi
        refine ht _ ?_
        show t.getD i 0 ∈ t
        rw [List.getD_eq_getElem?_getD, List.getElem?_eq_getElem hi']
        exact List.getElem_mem hi'
/-- the place of a key among Sp -/
theorem rk_at {K : Nat → Int32} {Sp : List Nat} (hs : Sp.Pairwise (fun x y => K x < K y)) {p : Nat} (hp : p ∈ Sp) : rk K (K p) Sp < Sp.length ∧ Sp.getD (rk K (K p) Sp) 0 = p := by
  obtain ⟨i, hi, e⟩ := List.getElem_of_mem hp
  have eD : Sp.getD i 0 = p := by
    rw [List.getD_eq_getElem?_getD, List.getElem?_eq_getElem hi]
    exact e
  have h1 : ¬ i < rk K (K p) Sp := fun z => by
    have := (rk_iff hs hi).mpr z
    rw [eD, Int32.lt_iff_toInt_lt] at this
    omega
  have h2 : ∀ q, q < i → q < rk K (K p) Sp := fun q hq => by
    refine (rk_iff hs (Nat.lt_trans hq hi)).mp ?_
    have h3 := List.pairwise_iff_getElem.mp hs q i (Nat.lt_trans hq hi) hi hq
    rw [e] at h3
    rw [List.getD_eq_getElem?_getD, List.getElem?_eq_getElem (Nat.lt_trans hq hi)]
    exact h3
  have h3 : rk K (K p) Sp = i := by
    rcases Nat.lt_trichotomy (rk K (K p) Sp) i with h | h | h
    · exact absurd (h2 _ h) (Nat.lt_irrefl _)
    · exact h
    · exact absurd h h1
  rw [h3]
  exact ⟨hi, eD⟩
theorem rk_find {K : Nat → Int32} {k : Int32} {Sp : List Nat} (hs : Sp.Pairwise (fun x y => K x < K y)) : (rk K k Sp < Sp.length ∧ K (Sp.getD (rk K k Sp) 0) = k) ∨ ((¬ (rk K k Sp < Sp.length ∧ K (Sp.getD (rk K k Sp) 0) = k)) ∧ k ∉ Sp.map K) := by
  by_cases c : rk K k Sp < Sp.length ∧ K (Sp.getD (rk K k Sp) 0) = k
  · exact Or.inl c
  · refine Or.inr ⟨c, fun z => c ?_⟩
    obtain ⟨p, hp, e⟩ := List.mem_map.mp z
    have h := rk_at hs hp
    rw [e] at h
    exact ⟨h.1, by rw [h.2]; exact e⟩
/-- a place comes in, goes out -/
theorem ps_add {K Z : Nat → Int32} {R Sp : List Nat} {p : Nat} {k : Int32} (h : PS K Z R Sp) (hp : p ∉ R) (hk : k ∉ R.map K) : PS (upd K p k) (upd (va_cpy Z Z (rk K k Sp) (rk K k Sp + 1) (Sp.length - rk K k Sp)) (rk K k Sp) (nI p)) (R ++ [p]) (Sp.take (rk K k Sp) ++ p :: Sp.drop (rk K k Sp)) := by
  obtain ⟨h1, h2, h3⟩ := h
  have hr : rk K k Sp ≤ Sp.length := rk_le
  generalize er : rk K k Sp = r at *
  have hpS : p ∉ Sp := fun z => hp (h1.mem_iff.mp z)
  have hin : ∀ x, x ∈ Sp → upd K p k x = K x := fun x hx => pk_un (fun z => hpS (by rw [← z]; exact hx))
  refine ⟨?_, ?_, ?_⟩
  · refine List.perm_middle.trans ?_
    rw [List.take_append_drop]
    exact (List.Perm.cons p h1).trans (List.perm_append_singleton p _).symm
  · refine List.pairwise_append.mpr ⟨?_, List.pairwise_cons.mpr ⟨?_, ?_⟩, ?_⟩
    · exact (h2.take).imp_of_mem (fun {a b} ha hb q => by rw [hin _ (List.mem_of_mem_take ha), hin _ (List.mem_of_mem_take hb)]; exact q)
    · intro y hy
      rw [pk_us, hin y (List.mem_of_mem_drop hy)]
      obtain ⟨i, hi, e⟩ := List.getElem_of_mem hy
      rw [List.getElem_drop] at e
      have hi' : r + i < Sp.length := by rw [List.length_drop] at hi; omega
      have h4 : ¬ K (Sp.getD (r + i) 0) < k := fun z => by
        have := (rk_iff h2 hi').mp z
        omega
      have eD : Sp.getD (r + i) 0 = y := by
        rw [List.getD_eq_getElem?_getD, List.getElem?_eq_getElem hi']
        exact e
      rw [eD] at h4
      have h5 : K y ≠ k := fun z => hk (List.mem_map.mpr ⟨y, h1.mem_iff.mp (List.mem_of_mem_drop hy), z⟩)
      rw [Int32.lt_iff_toInt_lt] at h4 ⊢
      have h6 : (K y).toInt ≠ k.toInt := fun z => h5 (Int32.toInt_inj.mp z)
      omega
    · exact (h2.drop).imp_of_mem (fun {a b} ha hb q => by rw [hin _ (List.mem_of_mem_drop ha), hin _ (List.mem_of_mem_drop hb)]; exact q)
    · intro x hx y hy
      have hxS := List.mem_of_mem_take hx
      obtain ⟨i, hi, e⟩ := List.getElem_of_mem hx
      rw [List.getElem_take] at e
      have hi2 : i < r ∧ i < Sp.length := by rw [List.length_take] at hi; omega
      have eD : Sp.getD i 0 = x := by
        rw [List.getD_eq_getElem?_getD, List.getElem?_eq_getElem hi2.2]
        exact e
      have h4 : K x < k := by
        rw [← eD]
        exact (rk_iff h2 hi2.2).mpr (by omega)
      rcases List.mem_cons.mp hy with rfl | hy
      · rw [pk_us, hin x hxS]; exact h4
      · rw [hin x hxS, hin y (List.mem_of_mem_drop hy)]
        obtain ⟨q, hq, e'⟩ := List.getElem_of_mem hy
        rw [List.getElem_drop] at e'
        have hq' : r + q < Sp.length := by rw [List.length_drop] at hq; omega
        have h5 := List.pairwise_iff_getElem.mp h2 i (r + q) hi2.2 hq' (by omega)
        rw [e, e'] at h5
        exact h5
  · intro i hi
    have hlen : (Sp.take r ++ p :: Sp.drop r).length = Sp.length + 1 := by
      simp only [List.length_append, List.length_take, List.length_cons, List.length_drop]
      omega
    rw [hlen] at hi
    have ht : (Sp.take r).length = r := by rw [List.length_take]; omega
    rw [List.getD_eq_getElem?_getD, List.getElem?_append, ht]
    by_cases c1 : i < r
    · rw [if_pos c1, pk_un (by omega), pk_cpy_out (by omega), h3 i (by omega), List.getD_eq_getElem?_getD, List.getElem?_take, if_pos c1]
    · rw [if_neg c1]
      by_cases c2 : i = r
      · subst c2
        rw [pk_us, Nat.sub_self]
        rfl
      · obtain ⟨q, rfl⟩ : ∃ q, i = r + (q + 1) := ⟨i - r - 1, by omega⟩
        have e1 : r + (q + 1) - r = q + 1 := by omega
        rw [e1, List.getElem?_cons_succ, List.getElem?_drop, pk_un (by omega), pk_cpy_in (by omega) (by omega), h3 _ (by omega), List.getD_eq_getElem?_getD]
        congr 3
        omega
theorem ps_del {K Z : Nat → Int32} {l1 l2 Sp : List Nat} {p : Nat} (h : PS K Z (l1 ++ p :: l2) Sp) (hnd : (l1 ++ p :: l2).Nodup) : PS K (va_cpy Z Z (rk K (K p) Sp + 1) (rk K (K p) Sp) (Sp.length - 1 - rk K (K p) Sp)) (l1 ++ l2) (Sp.take (rk K (K p) Sp) ++ Sp.drop (rk K (K p) Sp + 1)) := by
  obtain ⟨h1, h2, h3⟩ := h
  have hp : p ∈ Sp := h1.mem_iff.mpr (List.mem_append_right _ (List.mem_cons_self ..))
  obtain ⟨hr, eD⟩ := rk_at h2 hp
  generalize rk K (K p) Sp = r at *
  have e2 : Sp = Sp.take r ++ p :: Sp.drop (r + 1) := by
    have h4 : Sp.drop r = p :: Sp.drop (r + 1) := by
      rw [List.drop_eq_getElem_cons hr]
      rw [List.getD_eq_getElem?_getD, List.getElem?_eq_getElem hr] at eD
      congr 1
    conv => lhs; rw [← List.take_append_drop r Sp, h4]
  refine ⟨?_, ?_, ?_⟩
  · have h5 : (Sp.take r ++ p :: Sp.drop (r + 1)).Perm (l1 ++ p :: l2) := by rw [← e2]; exact h1
    exact ((List.perm_middle.symm.trans h5).trans List.perm_middle).cons_inv
  · rw [e2] at h2
    exact h2.sublist (List.Sublist.append_left (List.sublist_cons_self ..) _)
  · intro i hi
    have ht : (Sp.take r).length = r := by rw [List.length_take]; omega
    have hi : i < Sp.length - 1 := by
      simp only [List.length_append, List.length_take, List.length_drop] at hi
      omega
    rw [List.getD_eq_getElem?_getD, List.getElem?_append, ht]
    by_cases c1 : i < r
    · rw [if_pos c1, pk_cpy_out (by omega), h3 i (by omega), List.getD_eq_getElem?_getD, List.getElem?_take, if_pos c1]
    · rw [if_neg c1, pk_cpy_in (by omega) (by omega), h3 _ (by omega), List.getD_eq_getElem?_getD, List.getElem?_drop]
theorem pa_n {n j m : Nat} {R Fr : List Nat} (h : PA n j m R Fr) : 16 ≤ n ∧ n ≤ 2048 ∧ m ≤ n ∧ R.length ≤ m := by
  obtain ⟨⟨e, hj⟩, hm, _, _, hl⟩ := h
  have h1 : 2 ^ 4 ≤ 2 ^ (4 + j) := Nat.pow_le_pow_right (by decide) (by omega)
  have h2 : 2 ^ (4 + j) ≤ 2 ^ 11 := Nat.pow_le_pow_right (by decide) (by omega)
  omega
theorem pa_in {n j m : Nat} {R Fr : List Nat} (h : PA n j m R Fr) {x : Nat} (hx : x ∈ R) : x < m ∧ x < n := by
  have h1 := (h.2.2.2.1 x).mp (List.mem_append_left _ hx)
  have h2 := h.2.1
  omega
theorem pa_inF {n j m : Nat} {R Fr : List Nat} (h : PA n j m R Fr) {x : Nat} (hx : x ∈ Fr) : x < m ∧ x < n := by
  have h1 := (h.2.2.2.1 x).mp (List.mem_append_right _ hx)
  have h2 := h.2.1
  omega
theorem pa_nd {n j m : Nat} {R Fr : List Nat} (h : PA n j m R Fr) : R.Nodup := (List.nodup_append.mp h.2.2.1).1
theorem pa_perm {n j m : Nat} {R R' Fr : List Nat} (h : PA n j m R Fr) (p : R'.Perm R) : PA n j m R' Fr := by
  obtain ⟨a, b, c, d, e⟩ := h
  have pp : (R' ++ Fr).Perm (R ++ Fr) := p.append_right Fr
  exact ⟨a, b, pp.nodup_iff.mpr c, fun x => pp.mem_iff.trans (d x), by rw [p.length_eq]; exact e⟩
theorem pa_del {n j m : Nat} {l1 l2 Fr : List Nat} {x : Nat} (h : PA n j m (l1 ++ x :: l2) Fr) : PA n j m (l1 ++ l2) (x :: Fr) := by
  obtain ⟨a, b, c, d, e⟩ := h
  have p : ((l1 ++ l2) ++ x :: Fr).Perm ((l1 ++ x :: l2) ++ Fr) := by
    refine List.perm_middle.trans ?_
    refine List.Perm.trans ?_ (List.Perm.append_right Fr List.perm_middle.symm)
    exact List.Perm.refl _
  refine ⟨a, b, p.nodup_iff.mpr c, fun y => p.mem_iff.trans (d y), ?_⟩
  simp only [List.length_append, List.length_cons] at e ⊢
  omega
theorem pa_take {n j m : Nat} {R Fr : List Nat} {x : Nat} (h : PA n j m R (x :: Fr)) : PA n j m (R ++ [x]) Fr := by
  obtain ⟨a, b, c, d, e⟩ := h
  have p : (R ++ [x]) ++ Fr = R ++ x :: Fr := by simp
  refine ⟨a, b, by rw [p]; exact c, fun y => by rw [p]; exact d y, ?_⟩
  simp only [List.length_append, List.length_cons, List.length_nil] at e ⊢
  omega
theorem pa_make {n j m : Nat} {R : List Nat} (h : PA n j m R []) (hm : m < n) : PA n j (m + 1) (R ++ [m]) [] := by
  obtain ⟨a, b, c, d, e⟩ := h
  rw [List.append_nil] at c d
  refine ⟨a, hm, ?_, fun y => ?_, ?_⟩
  · rw [List.append_nil]
    refine List.nodup_append.mpr ⟨c, by simp, fun y hy z hz q => ?_⟩
    have h1 := (d y).mp hy
    have h2 : z = m := by simpa using hz
    omega
  · rw [List.append_nil]
    constructor
    · intro hy
      rcases List.mem_append.mp hy with hy | hy
      · have := (d y).mp hy
        omega
      · have h2 : y = m := by simpa using hy
        omega
    · intro hy
      by_cases q : y = m
      · rw [q]; exact List.mem_append_right _ (by simp)
      · exact List.mem_append_left _ ((d y).mpr (by omega))
  · simp only [List.length_append, List.length_cons, List.length_nil] at e ⊢
    omega
theorem pa_grow {n j m : Nat} {R : List Nat} (h : PA n j m R []) (hj : j < 7) : PA (2 * n) (j + 1) m R [] := by
  obtain ⟨⟨a1, a2⟩, b, c, d, e⟩ := h
  refine ⟨⟨by rw [a1]; rw [← Nat.add_assoc, Nat.pow_succ]; omega, by omega⟩, by omega, c, d, e⟩
/-- the last, or -1 -/
def lsI : List Nat → Int32
  | [] => -1
  | y :: t => nI (ls_ y t)
def hdI : List Nat → Int32
  | [] => -1
  | y :: _ => nI y
theorem sg_hdI {f : Nat → Int32} {a : Int32} {l : List Nat} (h : sg f a l (-1)) : a = hdI l := by
  cases l with
  | nil => exact h
  | cons y t => exact h.1
theorem hdI_rev (l : List Nat) : hdI l.reverse = lsI l := by
  rcases List.eq_nil_or_concat l with rfl | ⟨l', x, rfl⟩
  · rfl
  · rw [List.concat_eq_append, List.reverse_append]
    show nI x = lsI (l' ++ [x])
    cases l' with
    | nil => rfl
    | cons y t =>
      show nI x = nI (ls_ y (t ++ [x]))
      rw [ls_snoc]
def cB (f : Nat → Int32) (a v : Int32) : List Nat → (Nat → Int32) × Int32
  | [] => (f, v)
  | z :: _ => (upd f z v, a)
theorem cN_rev {f : Nat → Int32} {a v : Int32} (l : List Nat) : cN f a v l.reverse = cB f a v l := by
  cases l with
  | nil => rfl
  | cons z t =>
    have h := ls_snoc
    rw [List.reverse_cons]
    cases t.reverse with
    | nil => rfl
    | cons y w =>
      show (upd f (ls_ y (w ++ [z])) v, a) = (upd f z v, a)
      rw [ls_snoc]
/-- taken out of the order, put last -/
theorem pn_cut {P N : Nat → Int32} {fi la : Int32} {l1 l2 : List Nat} {p : Nat} (nd : (l1 ++ p :: l2).Nodup) (h : PN P N fi la (l1 ++ p :: l2)) : P p = lsI l1 ∧ N p = hdI l2 ∧ PN (cB P la (P p) l2).1 (cN N fi (N p) l1).1 (cN N fi (N p) l1).2 (cB P la (P p) l2).2 (l1 ++ l2) := by
  obtain ⟨hN, hP⟩ := h
  have er : (l1 ++ p :: l2).reverse = l2.reverse ++ p :: l1.reverse := by simp
  have er2 : (l1 ++ l2).reverse = l2.reverse ++ l1.reverse := by simp
  rw [er] at hP
  have ndr : (l2.reverse ++ p :: l1.reverse).Nodup := by rw [← er]; exact (List.reverse_perm _).nodup_iff.mpr nd
  refine ⟨?_, sg_hdI (sg_app.mp hN).2, sg_cutv nd hN, ?_⟩
  · have := sg_hdI (sg_app.mp hP).2
    rwa [hdI_rev] at this
  · have := sg_cutv ndr hP
    rw [cN_rev] at this
    rw [er2]
    exact this
theorem pn_add {P N : Nat → Int32} {fi la : Int32} {R : List Nat} {p : Nat} (nd : R.Nodup) (hp : p ∉ R) (h : PN P N fi la R) : la = lsI R ∧ PN (upd P p la) (cL N fi (-1) p R).1 (cL N fi (-1) p R).2 (nI p) (R ++ [p]) := by
  refine ⟨?_, sg_snocv nd hp h.1, ?_⟩
  · have := sg_hdI h.2
    rwa [hdI_rev] at this
  · have er : (R ++ [p]).reverse = p :: R.reverse := by simp
    rw [er]
    refine ⟨rfl, ?_⟩
    rw [pk_us]
    exact sg_upd (fun z => hp (List.mem_reverse.mp z)) h.2
/-- rows of free places that nobody of R touches -/
theorem cN_out {f : Nat → Int32} {a v : Int32} {l1 : List Nat} {z : Nat} (h : z ∉ l1) : (cN f a v l1).1 z = f z := by
  cases l1 with
  | nil => rfl
  | cons y t => exact pk_un (fun e => h (by rw [e]; exact ls_mem y t))
theorem cL_out {f : Nat → Int32} {a v : Int32} {i : Nat} {l : List Nat} {z : Nat} (h : z ∉ l) (hi : z ≠ i) : (cL f a v i l).1 z = f z := by
  cases l with
  | nil => exact pk_un hi
  | cons y t =>
    show upd (upd f i v) (ls_ y t) (nI i) z = f z
    rw [pk_un (fun e => h (by rw [e]; exact ls_mem y t)), pk_un hi]
theorem ps_perm {K Z : Nat → Int32} {R R' Sp : List Nat} (h : PS K Z R Sp) (p : R'.Perm R) : PS K Z R' Sp := ⟨h.1.trans p.symm, h.2⟩
theorem ps_nd {K Z : Nat → Int32} {R Sp : List Nat} (h : PS K Z R Sp) : (R.map K).Nodup := by
  refine ((h.1.map K).nodup_iff).mp ?_
  have h1 := h.2.1
  refine List.pairwise_map.mpr (h1.imp (fun {a b} q z => ?_))
  rw [z, Int32.lt_iff_toInt_lt] at q
  omega
/-- the place of a key -/
def io : Option Nat → Int32
  | none => -1
  | some x => nI x
def so (K : Nat → Int32) (k : Int32) (R : List Nat) : Option Nat := R.find? (fun x => K x == k)
theorem so_cases (K : Nat → Int32) (k : Int32) (R : List Nat) : (so K k R = none ∧ k ∉ R.map K) ∨ ∃ x, so K k R = some x ∧ x ∈ R ∧ K x = k := by
  unfold so
  cases h : R.find? (fun x => K x == k) with
  | none =>
    refine Or.inl ⟨rfl, fun z => ?_⟩
    obtain ⟨x, hx, e⟩ := List.mem_map.mp z
    have := List.find?_eq_none.mp h x hx
    exact this (by simp [e])
  | some x =>
    refine Or.inr ⟨x, rfl, List.mem_of_find?_eq_some h, ?_⟩
    have := List.find?_some h
    simpa using this
theorem so_eq {K : Nat → Int32} {k : Int32} {R : List Nat} (nd : (R.map K).Nodup) {x : Nat} (hx : x ∈ R) (e : K x = k) : so K k R = some x := by
  rcases so_cases K k R with h | ⟨y, h1, h2, h3⟩
  · exact absurd (List.mem_map.mpr ⟨x, hx, e⟩) h.2
  · rw [h1, nd_inj nd h2 hx (h3.trans e.symm)]
theorem so_none {K : Nat → Int32} {k : Int32} {R : List Nat} (h : k ∉ R.map K) : so K k R = none := by
  rcases so_cases K k R with q | ⟨y, h1, h2, h3⟩
  · exact q.1
  · exact absurd (List.mem_map.mpr ⟨y, h2, h3⟩) h
theorem m1_neg : (-1 : Int32) < 0 := by decide
theorem m1_nge : ¬ (0 : Int32) ≤ -1 := by decide
