-- What the law needs of the lists: the class's and the reference's answers are one; lengths; rows grow to 2048 at most
theorem fj_eq {mv : Bool} {f d : Int32} {c : Nat} : ∀ (j j' : Nat) (L : List (Int32 × Int32)) (i : Nat), (fj mv f d (j, L) i c).2 = (fjr mv f d (j', L) i c).2 := by
  induction c with
  | zero => exact fun _ _ _ _ => rfl
  | succ c ih => exact fun j j' L i => ih (njs j (f + nI i * d) L) (njrs j' (f + nI i * d) L) (st mv (f + nI i * d) (nI i) L) (i + 1)
theorem fp_eq {mv : Bool} {f d n : Int32} (j j' : Nat) (L : List (Int32 × Int32)) : (fp mv f d n (j, L)).2 = (fpr mv f d n (j', L)).2 := by
  unfold fp fpr
  show (if fo n L then fj mv f d (j, L) 0 (fc n) else (j, L)).2 = (if fo n L then fjr mv f d (j', L) 0 (fc n) else (j', L)).2
  by_cases h : fo n L = true
  · rw [if_pos h, if_pos h]; exact fj_eq _ _ _ _
  · rw [if_neg h, if_neg h]
theorem fa_eq {mv : Bool} {f d n : Int32} (j j' : Nat) (L : List (Int32 × Int32)) : fa mv f d n (j, L) = far mv f d n (j', L) := by
  unfold fa far
  rw [fp_eq j j' L]
theorem pj_eq {mv : Bool} {M : List (Int32 × Int32)} : ∀ (j j' : Nat) (L : List (Int32 × Int32)), (pj mv (j, L) M).2 = (pjr mv (j', L) M).2 := by
  induction M with
  | nil => exact fun _ _ _ => rfl
  | cons e M ih => exact fun j j' L => ih (njs j e.1 L) (njrs j' e.1 L) (st mv e.1 e.2 L)
theorem pp_eq {k1 k2 : Nat} {mv : Bool} (j j' : Nat) (L L1 : List (Int32 × Int32)) : (pp k1 k2 mv (j, L) L1).2 = (ppr k1 k2 mv (j', L) L1).2 := by
  unfold pp ppr
  show (if po_ k1 k2 L1 L then pj mv (j, L) L1 else (j, L)).2 = (if po_ k1 k2 L1 L then pjr mv (j', L) L1 else (j', L)).2
  by_cases h : po_ k1 k2 L1 L = true
  · rw [if_pos h, if_pos h]; exact pj_eq _ _ _
  · rw [if_neg h, if_neg h]
theorem pa_eq {k1 k2 : Nat} {mv : Bool} (j j' : Nat) (L L1 : List (Int32 × Int32)) : pa k1 k2 mv (j, L) L1 = par_ k1 k2 mv (j', L) L1 := by
  unfold pa par_
  rw [pp_eq j j' L L1]
theorem nj_7 {j len : Nat} (hj : j ≤ 7) (hl : len < 2047) : nj j len ≤ 7 := by
  unfold nj
  by_cases h : len + 1 = 2 ^ (4 + j)
  · rw [if_pos h]
    rcases Nat.lt_or_ge j 7 with h7 | h7
    · omega
    · have : j = 7 := by omega
      subst this
      omega
  · rw [if_neg h]; exact hj
theorem njr_7 {j len : Nat} (hj : j ≤ 7) (hl : len < 2047) : njr j len ≤ 7 := by
  unfold njr
  by_cases h : len = 2 ^ (4 + j)
  · rw [if_pos h]
    rcases Nat.lt_or_ge j 7 with h7 | h7
    · omega
    · have : j = 7 := by omega
      subst this
      omega
  · rw [if_neg h]; exact hj
theorem njs_7 {j : Nat} {k : Int32} {L : List (Int32 × Int32)} (hj : j ≤ 7) (hl : L.length < 2047) : njs j k L ≤ 7 := by
  unfold njs
  split
  · exact nj_7 hj hl
  · exact hj
theorem njrs_7 {j : Nat} {k : Int32} {L : List (Int32 × Int32)} (hj : j ≤ 7) (hl : L.length < 2047) : njrs j k L ≤ 7 := by
  unfold njrs
  split
  · exact njr_7 hj hl
  · exact hj
theorem fj_7 {mv : Bool} {f d : Int32} {c : Nat} : ∀ (j : Nat) (L : List (Int32 × Int32)) (i : Nat), j ≤ 7 → L.length + c ≤ 1400 → (fj mv f d (j, L) i c).1 ≤ 7 ∧ (fj mv f d (j, L) i c).2.length ≤ 1400 := by
  induction c with
  | zero => exact fun j L i h1 h2 => ⟨h1, h2⟩
  | succ c ih =>
    intro j L i h1 h2
    have := st_len (mv := mv) (k := f + nI i * d) (v := nI i) (L := L)
    exact ih (njs j (f + nI i * d) L) (st mv (f + nI i * d) (nI i) L) (i + 1) (njs_7 h1 (by omega)) (by omega)
theorem fjr_7 {mv : Bool} {f d : Int32} {c : Nat} : ∀ (j : Nat) (L : List (Int32 × Int32)) (i : Nat), j ≤ 7 → L.length + c ≤ 1400 → (fjr mv f d (j, L) i c).1 ≤ 7 := by
  induction c with
  | zero => exact fun j L i h1 h2 => h1
  | succ c ih =>
    intro j L i h1 h2
    have := st_len (mv := mv) (k := f + nI i * d) (v := nI i) (L := L)
    exact ih (njrs j (f + nI i * d) L) (st mv (f + nI i * d) (nI i) L) (i + 1) (njrs_7 h1 (by omega)) (by omega)
theorem fp_7 {mv : Bool} {f d n : Int32} {j : Nat} {L : List (Int32 × Int32)} {c : Nat} (hj : j ≤ 7) (hl : L.length ≤ 1400 + c) : (fp mv f d n (j, L)).1 ≤ 7 ∧ (fp mv f d n (j, L)).2.length ≤ 1400 + c := by
  unfold fp
  show (if fo n L then fj mv f d (j, L) 0 (fc n) else (j, L)).1 ≤ 7 ∧ (if fo n L then fj mv f d (j, L) 0 (fc n) else (j, L)).2.length ≤ 1400 + c
  by_cases h : fo n L = true
  · rw [if_pos h]
    have h2 := of_decide_eq_true h
    have h3 := fj_7 (mv := mv) (f := f) (d := d) (c := fc n) j L 0 hj (by omega)
    exact ⟨h3.1, by omega⟩
  · rw [if_neg h]; exact ⟨hj, hl⟩
theorem fpr_7 {mv : Bool} {f d n : Int32} {j : Nat} {L : List (Int32 × Int32)} (hj : j ≤ 7) : (fpr mv f d n (j, L)).1 ≤ 7 := by
  unfold fpr
  show (if fo n L then fjr mv f d (j, L) 0 (fc n) else (j, L)).1 ≤ 7
  by_cases h : fo n L = true
  · rw [if_pos h]
    have h2 := of_decide_eq_true h
    exact fjr_7 (mv := mv) (f := f) (d := d) (c := fc n) j L 0 hj (by omega)
  · rw [if_neg h]; exact hj
theorem pj_7 {mv : Bool} {M : List (Int32 × Int32)} : ∀ (j : Nat) (L : List (Int32 × Int32)), j ≤ 7 → L.length + M.length ≤ 1400 → (pj mv (j, L) M).1 ≤ 7 ∧ (pj mv (j, L) M).2.length ≤ 1400 := by
  induction M with
  | nil => exact fun j L h1 h2 => ⟨h1, h2⟩
  | cons e M ih =>
    intro j L h1 h2
    have := st_len (mv := mv) (k := e.1) (v := e.2) (L := L)
    simp only [List.length_cons] at h2
    exact ih (njs j e.1 L) (st mv e.1 e.2 L) (njs_7 h1 (by omega)) (by omega)
theorem pjr_7 {mv : Bool} {M : List (Int32 × Int32)} : ∀ (j : Nat) (L : List (Int32 × Int32)), j ≤ 7 → L.length + M.length ≤ 1400 → (pjr mv (j, L) M).1 ≤ 7 := by
  induction M with
  | nil => exact fun j L h1 h2 => h1
  | cons e M ih =>
    intro j L h1 h2
    have := st_len (mv := mv) (k := e.1) (v := e.2) (L := L)
    simp only [List.length_cons] at h2
    exact ih (njrs j e.1 L) (st mv e.1 e.2 L) (njrs_7 h1 (by omega)) (by omega)
theorem po_len {k1 k2 : Nat} {L1 L2 : List (Int32 × Int32)} (h : po_ k1 k2 L1 L2 = true) : L1.length + L2.length ≤ 1400 := by
  unfold po_ at h
  rw [Bool.and_eq_true] at h
  exact of_decide_eq_true h.1
theorem pp_7 {k1 k2 : Nat} {mv : Bool} {j : Nat} {L L1 : List (Int32 × Int32)} {c : Nat} (hj : j ≤ 7) (hl : L.length ≤ 1400 + c) : (pp k1 k2 mv (j, L) L1).1 ≤ 7 ∧ (pp k1 k2 mv (j, L) L1).2.length ≤ 1400 + c := by
  unfold pp
  show (if po_ k1 k2 L1 L then pj mv (j, L) L1 else (j, L)).1 ≤ 7 ∧ (if po_ k1 k2 L1 L then pj mv (j, L) L1 else (j, L)).2.length ≤ 1400 + c
  by_cases h : po_ k1 k2 L1 L = true
  · rw [if_pos h]
    have h2 := po_len h
    have h3 := pj_7 (mv := mv) (M := L1) j L hj (by omega)
    exact ⟨h3.1, by omega⟩
  · rw [if_neg h]; exact ⟨hj, hl⟩
theorem ppr_7 {k1 k2 : Nat} {mv : Bool} {j : Nat} {L L1 : List (Int32 × Int32)} (hj : j ≤ 7) : (ppr k1 k2 mv (j, L) L1).1 ≤ 7 := by
  unfold ppr
  show (if po_ k1 k2 L1 L then pjr mv (j, L) L1 else (j, L)).1 ≤ 7
  by_cases h : po_ k1 k2 L1 L = true
  · rw [if_pos h]
    have h2 := po_len h
    exact pjr_7 (mv := mv) (M := L1) j L hj (by omega)
  · rw [if_neg h]; exact hj
theorem ad_len {mv : Bool} {k v : Int32} {L : List (Int32 × Int32)} : (ad mv k v L).length ≤ L.length + 1 := by
  unfold ad
  split
  · simp
  · exact Nat.le_succ_of_le us_len
theorem tk_len {k v : Int32} {L : List (Int32 × Int32)} : (tk k v L).length ≤ L.length := by
  unfold tk
  split
  · exact del_len
  · exact Nat.le_refl _
theorem swl_len {d r : Int32} {L : List (Int32 × Int32)} : (swl d r L).length ≤ L.length := by
  unfold swl
  split
  · exact List.length_filter_le ..
  · exact Nat.le_refl _
theorem rs_len {b : Int32} {L : List (Int32 × Int32)} : (rs b L).length = L.length := List.length_map ..
theorem tl_7 {j : Nat} {L : List (Int32 × Int32)} {u : TB} (h : TL j L u) : j ≤ 7 := by
  obtain ⟨_, _, hTA, _⟩ := h
  exact hTA.1.2
theorem pl_7 {j : Nat} {L : List (Int32 × Int32)} {u : PB} (h : PL j L u) : j ≤ 7 := by
  obtain ⟨_, _, hPA, _⟩ := h
  exact hPA.1.2
/-- the cells and slots that growing took -/
def cA_ (jj : Nat → Nat) : Nat := mcT 0 (jj 0) + mcT 0 (jj 1) + mcT 0 (jj 2)
def sA_ (jj : Nat → Nat) : Nat := msT 0 (jj 0) + msT 0 (jj 1) + msT 0 (jj 2)
def cR (jj : Nat → Nat) : Nat := mcR 0 (jj 0) + mcR 0 (jj 1) + mcR 0 (jj 2)
def sR (jj : Nat → Nat) : Nat := msR 0 (jj 0) + msR 0 (jj 1) + msR 0 (jj 2)
theorem c_up {m : Nat → Nat → Nat} (ha : ∀ a b c, a ≤ b → b ≤ c → m a b + m b c = m a c) {jj : Nat → Nat} {k j : Nat} (hk : k < 3) (h : jj k ≤ j) : m 0 (va_up jj k j 0) + m 0 (va_up jj k j 1) + m 0 (va_up jj k j 2) = m 0 (jj 0) + m 0 (jj 1) + m 0 (jj 2) + m (jj k) j := by
  rcases (show k = 0 ∨ k = 1 ∨ k = 2 by omega) with rfl | rfl | rfl
  · have e := ha 0 (jj 0) j (Nat.zero_le _) h
    show m 0 j + m 0 (jj 1) + m 0 (jj 2) = _
    omega
  · have e := ha 0 (jj 1) j (Nat.zero_le _) h
    show m 0 (jj 0) + m 0 j + m 0 (jj 2) = _
    omega
  · have e := ha 0 (jj 2) j (Nat.zero_le _) h
    show m 0 (jj 0) + m 0 (jj 1) + m 0 j = _
    omega
theorem cA_up {jj : Nat → Nat} {k j : Nat} (hk : k < 3) (h : jj k ≤ j) : cA_ (va_up jj k j) = cA_ jj + mcT (jj k) j := c_up (fun _ _ _ => mcT_add) hk h
theorem sA_up {jj : Nat → Nat} {k j : Nat} (hk : k < 3) (h : jj k ≤ j) : sA_ (va_up jj k j) = sA_ jj + msT (jj k) j := c_up (fun _ _ _ => msT_add) hk h
theorem cR_up {jj : Nat → Nat} {k j : Nat} (hk : k < 3) (h : jj k ≤ j) : cR (va_up jj k j) = cR jj + mcR (jj k) j := c_up (fun _ _ _ => mcR_add) hk h
theorem sR_up {jj : Nat → Nat} {k j : Nat} (hk : k < 3) (h : jj k ≤ j) : sR (va_up jj k j) = sR jj + msR (jj k) j := c_up (fun _ _ _ => msR_add) hk h
theorem mT_7 {a b : Nat} (h : b ≤ 7) : mcT a b ≤ 42 ∧ msT a b ≤ 24576 ∧ mcR a b ≤ 42 ∧ msR a b ≤ 24576 := by
  unfold mcT msT mcR msR
  have e2 : 2 ^ (5 + b) ≤ 2 ^ 12 := Nat.pow_le_pow_right (by decide) (by omega)
  omega
theorem c_7 {jj : Nat → Nat} (h : ∀ k, k < 3 → jj k ≤ 7) : cA_ jj ≤ 126 ∧ sA_ jj ≤ 73728 ∧ cR jj ≤ 126 ∧ sR jj ≤ 73728 := by
  have h0 := mT_7 (a := 0) (h 0 (by decide))
  have h1 := mT_7 (a := 0) (h 1 (by decide))
  have h2 := mT_7 (a := 0) (h 2 (by decide))
  unfold cA_ sA_ cR sR
  omega
/-- the law's state behind n calls: both sides hold the lists LL -/
def LI (n : Nat) (LL : Nat → List (Int32 × Int32)) (jj : Nat → Nat) (uu : Nat → TB) (ii : Nat → Nat) (vv : Nat → PB) : Prop := (∀ k, k < 3 → TL (jj k) (LL k) (uu k) ∧ PL (ii k) (LL k) (vv k) ∧ (LL k).length ≤ 1400 + n) ∧ n ≤ 512
theorem up_s {α : Type} {f : Nat → α} {k : Nat} {v : α} : va_up f k v k = v := by simp [va_up]
theorem up_n {α : Type} {f : Nat → α} {k x : Nat} {v : α} (h : x ≠ k) : va_up f k v x = f x := by simp [va_up, h]
theorem li_up {n : Nat} {LL : Nat → List (Int32 × Int32)} {jj : Nat → Nat} {uu : Nat → TB} {ii : Nat → Nat} {vv : Nat → PB} (h : LI n LL jj uu ii vv) (hn : n + 1 ≤ 512) (k : Nat) {L' : List (Int32 × Int32)} {j' i' : Nat} {u' : TB} {v' : PB} (h1 : TL j' L' u') (h2 : PL i' L' v') (h3 : L'.length ≤ 1400 + (n + 1)) : LI (n + 1) (va_up LL k L') (va_up jj k j') (va_up uu k u') (va_up ii k i') (va_up vv k v') := by
  refine ⟨fun x hx => ?_, hn⟩
  by_cases c : x = k
  · subst c
    rw [up_s, up_s, up_s, up_s, up_s]
    exact ⟨h1, h2, h3⟩
  · rw [up_n c, up_n c, up_n c, up_n c, up_n c]
    obtain ⟨a, b, d⟩ := h.1 x hx
    exact ⟨a, b, by omega⟩
theorem li_mono {n : Nat} {LL : Nat → List (Int32 × Int32)} {jj : Nat → Nat} {uu : Nat → TB} {ii : Nat → Nat} {vv : Nat → PB} (h : LI n LL jj uu ii vv) (hn : n + 1 ≤ 512) : LI (n + 1) LL jj uu ii vv := by
  refine ⟨fun x hx => ?_, hn⟩
  obtain ⟨a, b, d⟩ := h.1 x hx
  exact ⟨a, b, by omega⟩
