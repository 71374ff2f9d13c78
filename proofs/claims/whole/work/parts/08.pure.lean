-- Pure words: segments of linked rows, lists of entries
/-- from the value a along f through the slots l to the value b -/
def sg (f : Nat → Int32) : Int32 → List Nat → Int32 → Prop
  | a, [], b => a = b
  | a, x :: l, b => a = nI x ∧ sg f (f x) l b
def hd_ (s : Nat) : List Nat → Nat
  | [] => s
  | x :: _ => x
def ls_ : Nat → List Nat → Nat
  | s, [] => s
  | _, x :: l => ls_ x l
theorem sg_cons {f : Nat → Int32} {a b : Int32} {x : Nat} {l : List Nat} : sg f a (x :: l) b ↔ a = nI x ∧ sg f (f x) l b := Iff.rfl
theorem sg_nil {f : Nat → Int32} {a b : Int32} : sg f a [] b ↔ a = b := Iff.rfl
theorem sg_app {f : Nat → Int32} {a b : Int32} {l1 : List Nat} {x : Nat} {l2 : List Nat} : sg f a (l1 ++ x :: l2) b ↔ sg f a l1 (nI x) ∧ sg f (f x) l2 b := by
  induction l1 generalizing a with
  | nil => exact Iff.rfl
  | cons y l ih =>
    show (a = nI y ∧ sg f (f y) (l ++ x :: l2) b) ↔ (a = nI y ∧ sg f (f y) l (nI x)) ∧ sg f (f x) l2 b
    rw [ih, and_assoc]
theorem sg_cong {f g : Nat → Int32} {a b : Int32} {l : List Nat} (h : ∀ x, x ∈ l → g x = f x) (s : sg f a l b) : sg g a l b := by
  induction l generalizing a with
  | nil => exact s
  | cons y l ih =>
    refine ⟨s.1, ?_⟩
    rw [h y (List.mem_cons_self ..)]
    exact ih (fun x hx => h x (List.mem_cons_of_mem _ hx)) s.2
theorem sg_upd {f : Nat → Int32} {a b v : Int32} {l : List Nat} {k : Nat} (h : k ∉ l) (s : sg f a l b) : sg (upd f k v) a l b :=
  sg_cong (fun x hx => pk_un (fun e => h (by rw [← e]; exact hx))) s
theorem sg_hd {f : Nat → Int32} {a : Int32} {l : List Nat} {e : Nat} (s : sg f a l (nI e)) : a = nI (hd_ e l) := by
  cases l with
  | nil => exact s
  | cons y l => exact s.1
theorem sg_hd0 {f : Nat → Int32} {a : Int32} {l : List Nat} (s : sg f a l 0) : a = nI (hd_ 0 l) := sg_hd (e := 0) s
theorem ls_mem (s : Nat) (l : List Nat) : ls_ s l ∈ s :: l := by
  induction l generalizing s with
  | nil => exact List.mem_cons_self ..
  | cons y l ih => exact List.mem_cons_of_mem _ (ih y)
theorem hd_mem (s : Nat) (l : List Nat) : hd_ s l ∈ s :: l := by
  cases l with
  | nil => exact List.mem_cons_self ..
  | cons y l => exact List.mem_cons_of_mem _ (List.mem_cons_self ..)
theorem ls_snoc (s x : Nat) (l : List Nat) : ls_ s (l ++ [x]) = x := by
  induction l generalizing s with
  | nil => rfl
  | cons y l ih => exact ih y
theorem hd_rev (s : Nat) (l : List Nat) : hd_ s l.reverse = ls_ s l := by
  rcases List.eq_nil_or_concat l with rfl | ⟨l', x, rfl⟩
  · rfl
  · rw [List.concat_eq_append, ls_snoc, List.reverse_append]
    rfl
theorem ls_rev (s : Nat) (l : List Nat) : ls_ s l.reverse = hd_ s l := by
  rw [← hd_rev, List.reverse_reverse]
/-- x is taken out -/
theorem sg_cut {f : Nat → Int32} {s x : Nat} {l1 l2 : List Nat} {e : Int32} (nd : (s :: (l1 ++ x :: l2)).Nodup) (h : sg f (f s) (l1 ++ x :: l2) e) : sg (upd f (ls_ s l1) (f x)) (upd f (ls_ s l1) (f x) s) (l1 ++ l2) e := by
  induction l1 generalizing s with
  | nil =>
    have h1 : s ∉ l2 := fun z => (List.nodup_cons.mp nd).1 (List.mem_cons_of_mem _ z)
    show sg (upd f s (f x)) (upd f s (f x) s) l2 e
    rw [pk_us]
    exact sg_upd h1 h.2
  | cons y l ih =>
    have h1 := List.nodup_cons.mp nd
    have h2 : s ≠ ls_ y l := by
      intro z
      have h3 := ls_mem y l
      rw [← z] at h3
      refine h1.1 ?_
      rcases List.mem_cons.mp h3 with h4 | h4
      · rw [h4]; exact List.mem_cons_self ..
      · exact List.mem_cons_of_mem _ (List.mem_append_left _ h4)
    refine ⟨?_, ih h1.2 h.2⟩
    show upd f (ls_ y l) (f x) s = nI y
    rw [pk_un h2]
    exact h.1
/-- i comes behind the last -/
theorem sg_snoc {f : Nat → Int32} {s i : Nat} {l : List Nat} {e : Int32} (nd : (s :: l).Nodup) (hi : i ∉ s :: l) (h : sg f (f s) l e) : sg (upd (upd f (ls_ s l) (nI i)) i e) (upd (upd f (ls_ s l) (nI i)) i e s) (l ++ [i]) e := by
  induction l generalizing s with
  | nil =>
    have h1 : s ≠ i := by
      intro z
      exact hi (by rw [z]; exact List.mem_cons_self ..)
    show upd (upd f s (nI i)) i e s = nI i ∧ upd (upd f s (nI i)) i e i = e
    exact ⟨by rw [pk_un h1, pk_us], pk_us⟩
  | cons y l ih =>
    have h1 := List.nodup_cons.mp nd
    have h2 : s ≠ ls_ y l := by
      intro z
      exact h1.1 (by rw [z]; exact ls_mem y l)
    have h3 : s ≠ i := by
      intro z
      exact hi (by rw [z]; exact List.mem_cons_self ..)
    refine ⟨?_, ih h1.2 (fun z => hi (List.mem_cons_of_mem _ z)) h.2⟩
    show upd (upd f (ls_ y l) (nI i)) i e s = nI y
    rw [pk_un h3, pk_un h2]
    exact h.1
/-- entries: what a key has, without a key, with another value -/
def lk (k : Int32) : List (Int32 × Int32) → Option Int32
  | [] => none
  | e :: L => if e.1 = k then some e.2 else lk k L
def del (k : Int32) (L : List (Int32 × Int32)) : List (Int32 × Int32) := L.filter (fun e => decide (e.1 ≠ k))
def setv (k v : Int32) (L : List (Int32 × Int32)) : List (Int32 × Int32) := L.map (fun e => if e.1 = k then (k, v) else e)
/-- the key is used -/
def us (mv : Bool) (k : Int32) (L : List (Int32 × Int32)) : List (Int32 × Int32) := if mv then (match lk k L with | none => L | some v => del k L ++ [(k, v)]) else L
/-- put -/
def st (mv : Bool) (k v : Int32) (L : List (Int32 × Int32)) : List (Int32 × Int32) := match lk k L with
  | none => L ++ [(k, v)]
  | some _ => us mv k (setv k v L)
/-- an answer -/
def an : Option Int32 → Int64
  | none => 1099511627776
  | some v => v.toInt64
abbrev ks_ (L : List (Int32 × Int32)) : List Int32 := L.map Prod.fst
theorem lk_out {k : Int32} {A X : List (Int32 × Int32)} (h : k ∉ ks_ A) : lk k (A ++ X) = lk k X := by
  induction A with
  | nil => rfl
  | cons e A ih =>
    have h1 : ¬ e.1 = k := fun z => h (by rw [← z]; exact List.mem_cons_self ..)
    show (if e.1 = k then some e.2 else lk k (A ++ X)) = lk k X
    rw [if_neg h1]
    exact ih (fun z => h (List.mem_cons_of_mem _ z))
theorem lk_none {k : Int32} {L : List (Int32 × Int32)} (h : k ∉ ks_ L) : lk k L = none := by
  have := lk_out (X := []) h
  rwa [List.append_nil] at this
theorem lk_mem {k v : Int32} {L : List (Int32 × Int32)} (h : lk k L = some v) : (k, v) ∈ L := by
  induction L with
  | nil => exact absurd h (by simp [lk])
  | cons e L ih =>
    by_cases c : e.1 = k
    · have h : (if e.1 = k then some e.2 else lk k L) = some v := h
      rw [if_pos c] at h
      have h := Option.some.inj h
      have : e = (k, v) := by rw [← c, ← h]
      rw [this]
      exact List.mem_cons_self ..
    · have h : (if e.1 = k then some e.2 else lk k L) = some v := h
      rw [if_neg c] at h
      exact List.mem_cons_of_mem _ (ih h)
theorem lk_mem_iff {k v : Int32} {L : List (Int32 × Int32)} (nd : (ks_ L).Nodup) : lk k L = some v ↔ (k, v) ∈ L := by
  refine ⟨lk_mem, fun h => ?_⟩
  induction L with
  | nil => exact absurd h List.not_mem_nil
  | cons e L ih =>
    have nd' := List.nodup_cons.mp nd
    show (if e.1 = k then some e.2 else lk k L) = some v
    rcases List.mem_cons.mp h with h1 | h1
    · rw [← h1, if_pos rfl]
    · have h2 : ¬ e.1 = k := fun z => nd'.1 (by rw [z]; exact List.mem_map_of_mem (f := Prod.fst) h1)
      rw [if_neg h2]
      exact ih nd'.2 h1
theorem lk_key {k : Int32} {L : List (Int32 × Int32)} : lk k L = none ↔ k ∉ ks_ L := by
  refine ⟨fun h => ?_, lk_none⟩
  induction L with
  | nil => exact List.not_mem_nil
  | cons e L ih =>
    have h : (if e.1 = k then some e.2 else lk k L) = none := h
    by_cases c : e.1 = k
    · rw [if_pos c] at h
      exact absurd h (by simp)
    · rw [if_neg c] at h
      intro z
      rcases List.mem_cons.mp z with h1 | h1
      · exact c h1.symm
      · exact ih h h1
theorem del_app {k : Int32} {A B : List (Int32 × Int32)} : del k (A ++ B) = del k A ++ del k B := List.filter_append ..
theorem del_out {k : Int32} {A : List (Int32 × Int32)} (h : k ∉ ks_ A) : del k A = A :=
  List.filter_eq_self.mpr (fun e he => decide_eq_true (fun z => h (by rw [← z]; exact List.mem_map_of_mem (f := Prod.fst) he)))
theorem setv_app {k v : Int32} {A B : List (Int32 × Int32)} : setv k v (A ++ B) = setv k v A ++ setv k v B := List.map_append ..
theorem setv_out {k v : Int32} {A : List (Int32 × Int32)} (h : k ∉ ks_ A) : setv k v A = A := by
  induction A with
  | nil => rfl
  | cons e A ih =>
    have h1 : ¬ e.1 = k := fun z => h (by rw [← z]; exact List.mem_cons_self ..)
    show (if e.1 = k then (k, v) else e) :: setv k v A = e :: A
    rw [if_neg h1, ih (fun z => h (List.mem_cons_of_mem _ z))]
theorem ks_setv {k v : Int32} {A : List (Int32 × Int32)} : ks_ (setv k v A) = ks_ A := by
  induction A with
  | nil => rfl
  | cons e A ih =>
    show (if e.1 = k then (k, v) else e).1 :: ks_ (setv k v A) = e.1 :: ks_ A
    rw [ih]
    by_cases c : e.1 = k
    · rw [if_pos c, c]
    · rw [if_neg c]
theorem nd_split {A B : List (Int32 × Int32)} {k v : Int32} (nd : (ks_ (A ++ (k, v) :: B)).Nodup) : k ∉ ks_ A ∧ k ∉ ks_ B := by
  have h : (ks_ A ++ k :: ks_ B).Nodup := by simpa [ks_] using nd
  obtain ⟨_, h2, h3⟩ := List.nodup_append.mp h
  exact ⟨fun z => h3 k z k (List.mem_cons_self ..) rfl, (List.nodup_cons.mp h2).1⟩
theorem lk_split {A B : List (Int32 × Int32)} {k v : Int32} (nd : (ks_ (A ++ (k, v) :: B)).Nodup) : lk k (A ++ (k, v) :: B) = some v ∧ del k (A ++ (k, v) :: B) = A ++ B ∧ ∀ w, setv k w (A ++ (k, v) :: B) = A ++ (k, w) :: B := by
  obtain ⟨hA, hB⟩ := nd_split nd
  refine ⟨?_, ?_, fun w => ?_⟩
  · rw [lk_out hA]
    show (if k = k then some v else lk k B) = some v
    rw [if_pos rfl]
  · rw [del_app, del_out hA]
    show A ++ (List.filter (fun e : Int32 × Int32 => decide (e.1 ≠ k)) ((k, v) :: B)) = A ++ B
    rw [List.filter_cons_of_neg (by simp)]
    show A ++ del k B = A ++ B
    rw [del_out hB]
  · rw [setv_app, setv_out hA]
    show A ++ (if k = k then (k, w) else (k, v)) :: setv k w B = A ++ (k, w) :: B
    rw [if_pos rfl, setv_out hB]
/-- the entries that stand in slots -/
abbrev kv (K V : Nat → Int32) (R : List Nat) : List (Int32 × Int32) := R.map (fun x => (K x, V x))
theorem ks_kv (K V : Nat → Int32) (R : List Nat) : ks_ (kv K V R) = R.map K := by
  simp [ks_, kv]
theorem kv_upd {K V : Nat → Int32} {R : List Nat} {x : Nat} {w : Int32} (h : x ∉ R) : kv K (upd V x w) R = kv K V R :=
  List.map_congr_left (fun y hy => by rw [pk_un (fun z => h (by rw [← z]; exact hy))])
theorem kv_updK {K V : Nat → Int32} {R : List Nat} {x : Nat} {w : Int32} (h : x ∉ R) : kv (upd K x w) V R = kv K V R :=
  List.map_congr_left (fun y hy => by rw [pk_un (fun z => h (by rw [← z]; exact hy))])
/-- the entry of a slot x among R -/
theorem kv_split {K V : Nat → Int32} {l1 l2 : List Nat} {x : Nat} (nd : ((l1 ++ x :: l2).map K).Nodup) : lk (K x) (kv K V (l1 ++ x :: l2)) = some (V x) ∧ del (K x) (kv K V (l1 ++ x :: l2)) = kv K V (l1 ++ l2) ∧ ∀ w, setv (K x) w (kv K V (l1 ++ x :: l2)) = kv K (upd V x w) (l1 ++ x :: l2) := by
  have e : ∀ V : Nat → Int32, kv K V (l1 ++ x :: l2) = kv K V l1 ++ (K x, V x) :: kv K V l2 := fun V => by simp [kv]
  have nx : x ∉ l1 ∧ x ∉ l2 := by
    have h : (l1.map K ++ K x :: l2.map K).Nodup := by simpa using nd
    obtain ⟨_, h2, h3⟩ := List.nodup_append.mp h
    exact ⟨fun z => h3 (K x) (List.mem_map_of_mem z) (K x) (List.mem_cons_self ..) rfl, fun z => (List.nodup_cons.mp h2).1 (List.mem_map_of_mem z)⟩
  have nd' : (ks_ (kv K V l1 ++ (K x, V x) :: kv K V l2)).Nodup := by rw [← e, ks_kv]; exact nd
  obtain ⟨a, b, c⟩ := lk_split nd'
  rw [e]
  refine ⟨a, by rw [b]; simp [kv], fun w => ?_⟩
  rw [c, e, kv_upd nx.1, kv_upd nx.2, pk_us]
/-- the slot of a key among R, 0 says none -/
def sl (K : Nat → Int32) (k : Int32) (R : List Nat) : Nat := (R.find? (fun x => K x == k)).getD 0
theorem sl_cases (K : Nat → Int32) (k : Int32) (R : List Nat) : (sl K k R = 0 ∧ k ∉ R.map K) ∨ (sl K k R ∈ R ∧ K (sl K k R) = k) := by
  unfold sl
  cases h : R.find? (fun x => K x == k) with
  | none =>
    refine Or.inl ⟨rfl, fun z => ?_⟩
    obtain ⟨x, hx, e⟩ := List.mem_map.mp z
    have := List.find?_eq_none.mp h x hx
    exact this (by simp [e])
  | some x =>
    refine Or.inr ⟨List.mem_of_find?_eq_some h, ?_⟩
    have := List.find?_some h
    simpa using this
