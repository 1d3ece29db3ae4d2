/-! The Lexicon as rows of letters in their order: what insert, remove and the rest do to it. -/
theorem cg {f : Nat → Nat} {x y : Nat} (h : x = y) : f x = f y := congrArg f h
abbrev LxT : Type := (Nat → Nat) × (Nat → Nat) × (Nat → Nat) × Nat
def LxI (lx : LxT) : Prop := LxB lx ∧ lx.2.1 0 = 0 ∧ (∀ i, i < lx.2.2.2 → lx.2.1 i < lx.2.1 (i + 1) ∧ lx.2.1 (i + 1) ≤ lx.2.1 i + 24) ∧ (∀ i, i + 1 < lx.2.2.2 → ltF (TX lx i) (ZX lx i) (TX lx (i + 1)) (ZX lx (i + 1)))
/-- between the rows (Z, T, W), n of them, and (Z', T', W'): a new one at p; the one at p gone; another weight at p -/
def VIns (n p : Nat) (Z : Nat → Nat) (T : Nat → Nat → Nat) (V : Nat → Nat) (Z' : Nat → Nat) (T' : Nat → Nat → Nat) (V' : Nat → Nat) (f : Nat → Nat) (len wt : Nat) : Prop :=
  (∀ i, i < p → Z' i = Z i ∧ (∀ k, k < Z i → T' i k = T i k) ∧ V' i = V i) ∧ (Z' p = len ∧ (∀ k, k < len → T' p k = f k) ∧ V' p = wt) ∧ (∀ i, p ≤ i → i < n → Z' (i + 1) = Z i ∧ (∀ k, k < Z i → T' (i + 1) k = T i k) ∧ V' (i + 1) = V i)
def VDel (n p : Nat) (Z : Nat → Nat) (T : Nat → Nat → Nat) (V : Nat → Nat) (Z' : Nat → Nat) (T' : Nat → Nat → Nat) (V' : Nat → Nat) : Prop :=
  (∀ i, i < p → Z' i = Z i ∧ (∀ k, k < Z i → T' i k = T i k) ∧ V' i = V i) ∧ (∀ i, p ≤ i → i + 1 < n → Z' i = Z (i + 1) ∧ (∀ k, k < Z (i + 1) → T' i k = T (i + 1) k) ∧ V' i = V (i + 1))
theorem lx_ins_view {lx : LxT} {wd : (Nat → Nat) × Nat} {p wt : Nat} (hB : LxB lx) (hp : p ≤ lx.2.2.2) : VIns lx.2.2.2 p (ZX lx) (TX lx) lx.2.2.1 (ZX (lxIns lx wd p wt)) (TX (lxIns lx wd p wt)) (lxIns lx wd p wt).2.2.1 wd.1 wd.2 wt := by
  have hmo : ∀ i j, i ≤ j → j ≤ lx.2.2.2 → lx.2.1 i ≤ lx.2.1 j := fun i j h1 h2 => lx_mono hB i j h1 h2
  have e : ∀ j, (lxIns lx wd p wt).2.1 j = if p < j ∧ j ≤ lx.2.2.2 + 1 then lx.2.1 (j - 1) + wd.2 else lx.2.1 j := fun j => rfl
  have e1 : ∀ j, j ≤ p → (lxIns lx wd p wt).2.1 j = lx.2.1 j := fun j h => by rw [e, if_neg (by omega)]
  have e2 : ∀ j, p ≤ j → j ≤ lx.2.2.2 → (lxIns lx wd p wt).2.1 (j + 1) = lx.2.1 j + wd.2 := fun j h h2 => by rw [e, if_pos (by omega)]; rfl
  have l1 : ∀ q, q < lx.2.1 p → (lxIns lx wd p wt).1 q = lx.1 q := fun q h => by
    show va_cpy wd.1 (va_cpy lx.1 lx.1 _ _ _) 0 _ _ q = _
    rw [pk_cpy_out (Or.inl h), pk_cpy_out (Or.inl (by omega))]
  have l2 : ∀ k, k < wd.2 → (lxIns lx wd p wt).1 (lx.2.1 p + k) = wd.1 k := fun k h => by
    show va_cpy wd.1 (va_cpy lx.1 lx.1 _ _ _) 0 _ _ _ = _
    rw [pk_cpy_in (by omega) (by omega)]
    exact cg (by omega)
  have l3 : ∀ q, lx.2.1 p ≤ q → q < lx.2.1 lx.2.2.2 → (lxIns lx wd p wt).1 (q + wd.2) = lx.1 q := fun q h h2 => by
    show va_cpy wd.1 (va_cpy lx.1 lx.1 _ _ _) 0 _ _ _ = _
    rw [pk_cpy_out (Or.inr (by omega)), pk_cpy_in (by omega) (by omega)]
    exact cg (by omega)
  have w1 : ∀ i, (lxIns lx wd p wt).2.2.1 i = va_up (va_cpy lx.2.2.1 lx.2.2.1 p (p + 1) (lx.2.2.2 - p)) p wt i := fun _ => rfl
  refine ⟨fun i hi => ⟨?_, fun k hk => ?_, ?_⟩, ⟨?_, fun k hk => ?_, ?_⟩, fun i hi hn => ⟨?_, fun k hk => ?_, ?_⟩⟩
  · show (lxIns lx wd p wt).2.1 (i + 1) - (lxIns lx wd p wt).2.1 i = _
    rw [e1 _ (by omega), e1 _ (by omega)]
  · show (lxIns lx wd p wt).1 ((lxIns lx wd p wt).2.1 i + k) = _
    have h1 := hmo (i + 1) p (by omega) hp
    have hk : k < lx.2.1 (i + 1) - lx.2.1 i := hk
    rw [e1 _ (by omega), l1 _ (by omega)]
  · rw [w1, va_up, if_neg (by omega), pk_cpy_out (Or.inl (by omega))]
  · show (lxIns lx wd p wt).2.1 (p + 1) - (lxIns lx wd p wt).2.1 p = _
    rw [e1 _ (Nat.le_refl _), e2 _ (Nat.le_refl _) hp]
    omega
  · show (lxIns lx wd p wt).1 ((lxIns lx wd p wt).2.1 p + k) = _
    rw [e1 _ (Nat.le_refl _), l2 _ hk]
  · rw [w1, va_up, if_pos rfl]
  · show (lxIns lx wd p wt).2.1 (i + 1 + 1) - (lxIns lx wd p wt).2.1 (i + 1) = lx.2.1 (i + 1) - lx.2.1 i
    rw [e2 _ (by omega) (by omega), e2 _ (by omega) (by omega)]
    omega
  · show (lxIns lx wd p wt).1 ((lxIns lx wd p wt).2.1 (i + 1) + k) = lx.1 (lx.2.1 i + k)
    have h1 := hmo p i (by omega) (by omega)
    have h2 := hmo (i + 1) lx.2.2.2 (by omega) (by omega)
    have hk : k < lx.2.1 (i + 1) - lx.2.1 i := hk
    rw [e2 _ (by omega) (by omega), ← l3 (lx.2.1 i + k) (by omega) (by omega)]
    exact cg (by omega)
  · rw [w1, va_up, if_neg (by omega), pk_cpy_in (by omega) (by omega)]
    exact cg (by omega)
theorem lx_del_view {lx : LxT} {p : Nat} (hB : LxB lx) (hp : p < lx.2.2.2) : VDel lx.2.2.2 p (ZX lx) (TX lx) lx.2.2.1 (ZX (lxDel lx p)) (TX (lxDel lx p)) (lxDel lx p).2.2.1 := by
  have hmo : ∀ i j, i ≤ j → j ≤ lx.2.2.2 → lx.2.1 i ≤ lx.2.1 j := fun i j h1 h2 => lx_mono hB i j h1 h2
  have hpp := hmo p (p + 1) (by omega) (by omega)
  have e : ∀ j, (lxDel lx p).2.1 j = if p < j ∧ j < lx.2.2.2 then lx.2.1 (j + 1) - (lx.2.1 (p + 1) - lx.2.1 p) else lx.2.1 j := fun j => rfl
  have e1 : ∀ j, j ≤ p → (lxDel lx p).2.1 j = lx.2.1 j := fun j h => by rw [e, if_neg (by omega)]
  have e2 : ∀ j, p ≤ j → j < lx.2.2.2 → (lxDel lx p).2.1 j = lx.2.1 (j + 1) - (lx.2.1 (p + 1) - lx.2.1 p) := fun j h h2 => by
    rcases Nat.lt_or_ge p j with z | z
    · rw [e, if_pos (by omega)]
    · rw [show j = p by omega, e1 _ (Nat.le_refl _)]
      omega
  have l1 : ∀ q, q < lx.2.1 p → (lxDel lx p).1 q = lx.1 q := fun q h => by
    show va_cpy lx.1 lx.1 _ _ _ q = _
    rw [pk_cpy_out (Or.inl h)]
  have l2 : ∀ q, lx.2.1 (p + 1) ≤ q → q < lx.2.1 lx.2.2.2 → (lxDel lx p).1 (q - (lx.2.1 (p + 1) - lx.2.1 p)) = lx.1 q := fun q h h2 => by
    show va_cpy lx.1 lx.1 _ _ _ _ = _
    rw [pk_cpy_in (by omega) (by omega)]
    exact cg (by omega)
  have w1 : ∀ i, (lxDel lx p).2.2.1 i = va_cpy lx.2.2.1 lx.2.2.1 (p + 1) p (lx.2.2.2 - p - 1) i := fun _ => rfl
  refine ⟨fun i hi => ⟨?_, fun k hk => ?_, ?_⟩, fun i hi hn => ⟨?_, fun k hk => ?_, ?_⟩⟩
  · show (lxDel lx p).2.1 (i + 1) - (lxDel lx p).2.1 i = _
    rw [e1 _ (by omega), e1 _ (by omega)]
  · show (lxDel lx p).1 ((lxDel lx p).2.1 i + k) = _
    have h1 := hmo (i + 1) p (by omega) (by omega)
    have hk : k < lx.2.1 (i + 1) - lx.2.1 i := hk
    rw [e1 _ (by omega), l1 _ (by omega)]
  · rw [w1, pk_cpy_out (Or.inl (by omega))]
  · show (lxDel lx p).2.1 (i + 1) - (lxDel lx p).2.1 i = lx.2.1 (i + 1 + 1) - lx.2.1 (i + 1)
    have h1 := hmo (p + 1) (i + 1) (by omega) (by omega)
    rw [e2 _ (by omega) (by omega), e2 _ (by omega) (by omega)]
    omega
  · show (lxDel lx p).1 ((lxDel lx p).2.1 i + k) = lx.1 (lx.2.1 (i + 1) + k)
    have h1 := hmo (p + 1) (i + 1) (by omega) (by omega)
    have h2 := hmo (i + 1 + 1) lx.2.2.2 (by omega) (by omega)
    have hk : k < lx.2.1 (i + 1 + 1) - lx.2.1 (i + 1) := hk
    rw [e2 _ (by omega) (by omega), ← l2 (lx.2.1 (i + 1) + k) (by omega) (by omega)]
    exact cg (by omega)
  · rw [w1, pk_cpy_in (by omega) (by omega)]
    exact cg (by omega)
theorem lx_sorted {lx : LxT} (h : LxI lx) (i : Nat) : ∀ j, i < j → j < lx.2.2.2 → ltF (TX lx i) (ZX lx i) (TX lx j) (ZX lx j) := by
  intro j
  induction j with
  | zero => intro h1; exact absurd h1 (Nat.not_lt_zero _)
  | succ j ih =>
    intro h1 h2
    rcases Nat.lt_or_ge i j with z | z
    · exact ltF_trans (ih z (by omega)) (h.2.2.2 j h2)
    · rw [show i = j by omega]
      exact h.2.2.2 j h2
/-- the place of the letters f, len of them -/
def PLp (lx : LxT) (f : Nat → Nat) (len r : Nat) : Prop := r ≤ lx.2.2.2 ∧ (∀ i, i < r → ltF (TX lx i) (ZX lx i) f len) ∧ (∀ i, r ≤ i → i < lx.2.2.2 → ¬ ltF (TX lx i) (ZX lx i) f len)
theorem pl_ex {lx : LxT} (h : LxI lx) (f : Nat → Nat) (len : Nat) : ∃ r, PLp lx f len r := by
  obtain ⟨r, hr, hmin⟩ := pk_least (fun k => k = lx.2.2.2 ∨ (k < lx.2.2.2 ∧ ¬ ltF (TX lx k) (ZX lx k) f len)) ⟨lx.2.2.2, Or.inl rfl⟩
  refine ⟨r, by omega, fun i hi => ?_, fun i h1 h2 => ?_⟩
  · have h3 := hmin i hi
    refine Classical.byContradiction (fun z => h3 (Or.inr ⟨by omega, z⟩))
  · rcases hr with hr | hr
    · omega
    · intro z
      rcases Nat.lt_or_ge r i with y | y
      · exact hr.2 (ltF_trans (lx_sorted h r i y h2) z)
      · rw [show r = i by omega] at hr
        exact hr.2 z
theorem pl_un {lx : LxT} {f : Nat → Nat} {len r q : Nat} (h : PLp lx f len r) (k : PLp lx f len q) : r = q := by
  rcases Nat.lt_trichotomy r q with z | z | z
  · exact absurd (k.2.1 r z) (h.2.2 r (Nat.le_refl _) (Nat.lt_of_lt_of_le z k.1))
  · exact z
  · exact absurd (h.2.1 q z) (k.2.2 q (Nat.le_refl _) (Nat.lt_of_lt_of_le z h.1))
noncomputable def dB (P : Prop) : Bool := @decide P (Classical.propDecidable P)
theorem dB_iff {P : Prop} : dB P = true ↔ P := @decide_eq_true_iff P (Classical.propDecidable P)
theorem dB_t {P : Prop} (h : P) : dB P = true := dB_iff.mpr h
theorem dB_f {P : Prop} (h : ¬ P) : dB P = false := by
  cases hh : dB P with
  | false => rfl
  | true => exact absurd (dB_iff.mp hh) h
theorem dB_congr {P P' : Prop} (h : P ↔ P') : dB P = dB P' := by rw [propext h]
noncomputable def plX (lx : LxT) (f : Nat → Nat) (len : Nat) : Nat := if h : dB (∃ r, PLp lx f len r) = true then Classical.choose (dB_iff.mp h) else 0
theorem plX_is {lx : LxT} (h : LxI lx) (f : Nat → Nat) (len : Nat) : PLp lx f len (plX lx f len) := by
  unfold plX
  rw [dif_pos (dB_t (pl_ex h f len))]
  exact Classical.choose_spec (dB_iff.mp (dB_t (pl_ex h f len)))
def stdX (lx : LxT) (f : Nat → Nat) (len r : Nat) : Prop := r < lx.2.2.2 ∧ lx.2.1 (r + 1) - lx.2.1 r = len ∧ ∀ j, j < len → TX lx r j = f j
def roomX (lx : LxT) (len : Nat) : Prop := lx.2.2.2 < 600 ∧ lx.2.1 lx.2.2.2 + len ≤ 6000
def lxSet (lx : LxT) (p wt : Nat) : LxT := (lx.1, lx.2.1, va_up lx.2.2.1 p wt, lx.2.2.2)
theorem lxI_set {lx : LxT} {p wt : Nat} (h : LxI lx) (hw : wt ≤ 1000000000000) : LxI (lxSet lx p wt) := by
  obtain ⟨⟨h1, h2, h3, h4, h5⟩, h6, h7, h8⟩ := h
  refine ⟨⟨h1, h2, h3, h4, fun j => ?_⟩, h6, h7, h8⟩
  show va_up lx.2.2.1 p wt j ≤ _
  unfold va_up
  by_cases e : j = p
  · rw [if_pos e]; exact hw
  · rw [if_neg e]; exact h5 j
theorem lxI_add {lx : LxT} {p wt : Nat} (h : LxI lx) : LxI (lxAdd lx p wt) := lxI_set (p := p) (wt := min (lx.2.2.1 p + wt) 1000000000000) h (Nat.min_le_right _ _)
theorem lxI_ins {lx : LxT} {wd : (Nat → Nat) × Nat} {p wt : Nat} (h : LxI lx) (hW : WdB wd) (hl : 0 < wd.2) (hr : roomX lx wd.2) (hp : PLp lx wd.1 wd.2 p) (hs : ¬ stdX lx wd.1 wd.2 p) (hw : wt ≤ 1000000000000) : LxI (lxIns lx wd p wt) := by
  have hB := h.1
  obtain ⟨v1, ⟨v2, v3, v4⟩, v5⟩ := lx_ins_view (wd := wd) (wt := wt) hB hp.1
  obtain ⟨⟨h1, h2, h3, h4, h5⟩, h6, h7, h8⟩ := id h
  have hmo : ∀ i j, i ≤ j → j ≤ lx.2.2.2 → lx.2.1 i ≤ lx.2.1 j := fun i j h1 h2 => lx_mono hB i j h1 h2
  have e : ∀ j, (lxIns lx wd p wt).2.1 j = if p < j ∧ j ≤ lx.2.2.2 + 1 then lx.2.1 (j - 1) + wd.2 else lx.2.1 j := fun j => rfl
  have en : (lxIns lx wd p wt).2.2.2 = lx.2.2.2 + 1 := rfl
  have hp1 := hp.1
  have hst : ∀ i, i < lx.2.2.2 + 1 → (lxIns lx wd p wt).2.1 i < (lxIns lx wd p wt).2.1 (i + 1) ∧ (lxIns lx wd p wt).2.1 (i + 1) ≤ (lxIns lx wd p wt).2.1 i + 24 := fun i hi => by
    rcases Nat.lt_trichotomy i p with z | z | z
    · have := h7 i (by omega)
      rw [e, e, if_neg (by omega), if_neg (by omega)]
      exact this
    · have ea : (lxIns lx wd p wt).2.1 i = lx.2.1 p := by rw [e, if_neg (by omega), z]
      have eb : (lxIns lx wd p wt).2.1 (i + 1) = lx.2.1 p + wd.2 := by rw [e, if_pos (by omega), z]; rfl
      have := hW.1
      rw [ea, eb]
      omega
    · have := h7 (i - 1) (by omega)
      rw [show i - 1 + 1 = i by omega] at this
      rw [e, e, if_pos (by omega), if_pos (by omega), show i + 1 - 1 = i from rfl]
      omega
  refine ⟨⟨by rw [en]; have := hr.1; omega, fun i hi => Nat.le_of_lt (hst i hi).1, fun j => ?_, fun j => ?_, fun j => ?_⟩, ?_, hst, fun i hi => ?_⟩
  · rw [e]
    by_cases q : p < j ∧ j ≤ lx.2.2.2 + 1
    · rw [if_pos q]
      have := hmo (j - 1) lx.2.2.2 (by omega) (Nat.le_refl _)
      have := hr.2
      omega
    · rw [if_neg q]
      exact h3 j
  · show va_cpy wd.1 (va_cpy lx.1 lx.1 _ _ _) 0 _ _ j < 128
    unfold va_cpy
    split
    · exact hW.2 _
    · split
      · exact h4 _
      · exact h4 _
  · show va_up (va_cpy lx.2.2.1 lx.2.2.1 _ _ _) p wt j ≤ _
    unfold va_up va_cpy
    split
    · exact hw
    · split
      · exact h5 _
      · exact h5 _
  · rw [e, if_neg (by omega)]
    exact h6
  · rw [en] at hi
    rcases Nat.lt_trichotomy (i + 1) p with z | z | z
    · have a1 := v1 i (by omega)
      have a2 := v1 (i + 1) z
      rw [a1.1, a2.1]
      exact ltF_congr (fun k hk => (a1.2.1 k hk).symm) (fun k hk => (a2.2.1 k hk).symm) (h8 i (by omega))
    · have a1 := v1 i (by omega)
      rw [a1.1, z, v2]
      exact ltF_congr (fun k hk => (a1.2.1 k hk).symm) (fun k hk => (v3 k hk).symm) (hp.2.1 i (by omega))
    · rcases Nat.lt_or_ge p i with y | y
      · have a1 := v5 (i - 1) (by omega) (by omega)
        have a2 := v5 i (by omega) (by omega)
        rw [show i - 1 + 1 = i by omega] at a1
        rw [a1.1, a2.1]
        have h9 := h8 (i - 1) (by omega)
        rw [show i - 1 + 1 = i by omega] at h9
        exact ltF_congr (fun k hk => (a1.2.1 k hk).symm) (fun k hk => (a2.2.1 k hk).symm) h9
      · have ei : i = p := by omega
        subst ei
        have a2 := v5 i (Nat.le_refl _) (by omega)
        rw [v2, a2.1]
        refine ltF_congr (f := wd.1) (fun k hk => (v3 k hk).symm) (fun k hk => (a2.2.1 k hk).symm) ?_
        rcases ltF_tri wd.1 wd.2 (TX lx i) (ZX lx i) with t | t | t
        · exact t
        · exact absurd ⟨by omega, t.1.symm, fun j hj => (t.2 j hj).symm⟩ hs
        · exact absurd t (hp.2.2 i (Nat.le_refl _) (by omega))
theorem lxI_del {lx : LxT} {p : Nat} (h : LxI lx) (hp : p < lx.2.2.2) : LxI (lxDel lx p) := by
  have hB := h.1
  obtain ⟨v1, v5⟩ := lx_del_view hB hp
  obtain ⟨⟨h1, h2, h3, h4, h5⟩, h6, h7, h8⟩ := id h
  have hmo : ∀ i j, i ≤ j → j ≤ lx.2.2.2 → lx.2.1 i ≤ lx.2.1 j := fun i j h1 h2 => lx_mono hB i j h1 h2
  have e : ∀ j, (lxDel lx p).2.1 j = if p < j ∧ j < lx.2.2.2 then lx.2.1 (j + 1) - (lx.2.1 (p + 1) - lx.2.1 p) else lx.2.1 j := fun j => rfl
  have en : (lxDel lx p).2.2.2 = lx.2.2.2 - 1 := rfl
  have hpp := hmo p (p + 1) (by omega) (by omega)
  have hst : ∀ i, i < lx.2.2.2 - 1 → (lxDel lx p).2.1 i < (lxDel lx p).2.1 (i + 1) ∧ (lxDel lx p).2.1 (i + 1) ≤ (lxDel lx p).2.1 i + 24 := fun i hi => by
    rcases Nat.lt_trichotomy i p with z | z | z
    · have := h7 i (by omega)
      rw [e, e, if_neg (by omega), if_neg (by omega)]
      exact this
    · have := h7 (p + 1) (by omega)
      have ea : (lxDel lx p).2.1 i = lx.2.1 p := by rw [e, if_neg (by omega), z]
      have eb : (lxDel lx p).2.1 (i + 1) = lx.2.1 (p + 1 + 1) - (lx.2.1 (p + 1) - lx.2.1 p) := by rw [e, if_pos (by omega), z]
      rw [ea, eb]
      omega
    · have := h7 (i + 1) (by omega)
      have h9 := hmo (p + 1) (i + 1) (by omega) (by omega)
      rw [e, e, if_pos (by omega), if_pos (by omega)]
      omega
  refine ⟨⟨by rw [en]; omega, fun i hi => Nat.le_of_lt (hst i hi).1, fun j => ?_, fun j => ?_, fun j => ?_⟩, ?_, hst, fun i hi => ?_⟩
  · rw [e]
    split
    · have := h3 (j + 1)
      omega
    · exact h3 j
  · show va_cpy lx.1 lx.1 _ _ _ j < 128
    unfold va_cpy
    split
    · exact h4 _
    · exact h4 _
  · show va_cpy lx.2.2.1 lx.2.2.1 _ _ _ j ≤ _
    unfold va_cpy
    split
    · exact h5 _
    · exact h5 _
  · rw [e, if_neg (by omega)]
    exact h6
  · rw [en] at hi
    rcases Nat.lt_or_ge (i + 1) p with z | z
    · have a1 := v1 i (by omega)
      have a2 := v1 (i + 1) z
      rw [a1.1, a2.1]
      exact ltF_congr (fun k hk => (a1.2.1 k hk).symm) (fun k hk => (a2.2.1 k hk).symm) (h8 i (by omega))
    · have a2 := v5 (i + 1) (by omega) (by omega)
      rcases Nat.lt_or_ge i p with y | y
      · have a1 := v1 i y
        rw [a1.1, a2.1]
        exact ltF_congr (fun k hk => (a1.2.1 k hk).symm) (fun k hk => (a2.2.1 k hk).symm) (lx_sorted h i (i + 1 + 1) (by omega) (by omega))
      · have a1 := v5 i y (by omega)
        rw [a1.1, a2.1]
        exact ltF_congr (fun k hk => (a1.2.1 k hk).symm) (fun k hk => (a2.2.1 k hk).symm) (h8 (i + 1) (by omega))
/-- one use of the letters f, len of them, of weight wt: the lexicon then; 1 if it was taken in -/
noncomputable def useX (lx : LxT) (f : Nat → Nat) (len wt : Nat) : LxT × Nat :=
  bif dB (0 < len) then (bif dB (stdX lx f len (plX lx f len)) then (lxAdd lx (plX lx f len) wt, 1) else (bif dB (roomX lx len) then (lxIns lx (f, len) (plX lx f len) wt, 1) else (lx, 0))) else (lx, 0)
theorem useX_inv {lx : LxT} {f : Nat → Nat} {len wt : Nat} (h : LxI lx) (hW : WdB (f, len)) (hw : wt ≤ 1000000000000) : LxI (useX lx f len wt).1 ∧ (useX lx f len wt).2 ≤ 1 := by
  have hp := plX_is h f len
  unfold useX
  cases h0 : dB (0 < len) with
  | false => exact ⟨h, Nat.zero_le _⟩
  | true =>
    cases h1 : dB (stdX lx f len (plX lx f len)) with
    | true => exact ⟨lxI_add h, Nat.le_refl _⟩
    | false =>
      cases h2 : dB (roomX lx len) with
      | false => exact ⟨h, Nat.zero_le _⟩
      | true =>
        exact ⟨lxI_ins (wd := (f, len)) h hW (dB_iff.mp h0) (dB_iff.mp h2) hp (fun z => by rw [dB_t z] at h1; cases h1) hw, Nat.le_refl _⟩
theorem lxIns_congr {lx : LxT} {f g : Nat → Nat} {len p wt : Nat} (h : ∀ j, j < len → f j = g j) : lxIns lx (f, len) p wt = lxIns lx (g, len) p wt := by
  have e : ∀ u : Nat → Nat, va_cpy f u 0 (lx.2.1 p) len = va_cpy g u 0 (lx.2.1 p) len := fun u => by
    funext j
    unfold va_cpy
    by_cases q : lx.2.1 p ≤ j ∧ j < lx.2.1 p + len
    · rw [if_pos q, if_pos q, h _ (by omega)]
    · rw [if_neg q, if_neg q]
  show (va_cpy f _ 0 _ len, _, _, _) = (va_cpy g _ 0 _ len, _, _, _)
  rw [e]
theorem plX_congr {lx : LxT} {f g : Nat → Nat} {len : Nat} (hI : LxI lx) (h : ∀ j, j < len → f j = g j) : plX lx f len = plX lx g len := by
  have h1 := plX_is hI f len
  have h2 := plX_is hI g len
  refine pl_un (f := g) ⟨h1.1, fun i hi => ltF_congr (fun _ _ => rfl) h (h1.2.1 i hi), fun i hi hn z => h1.2.2 i hi hn (ltF_congr (fun _ _ => rfl) (fun j hj => (h j hj).symm) z)⟩ h2
theorem stdX_congr {lx : LxT} {f g : Nat → Nat} {len r : Nat} (h : ∀ j, j < len → f j = g j) : stdX lx f len r ↔ stdX lx g len r :=
  ⟨fun z => ⟨z.1, z.2.1, fun j hj => (z.2.2 j hj).trans (h j hj)⟩, fun z => ⟨z.1, z.2.1, fun j hj => (z.2.2 j hj).trans (h j hj).symm⟩⟩
theorem useX_congr {lx : LxT} {f g : Nat → Nat} {len wt : Nat} (hI : LxI lx) (h : ∀ j, j < len → f j = g j) : useX lx f len wt = useX lx g len wt := by
  unfold useX
  rw [plX_congr hI h, dB_congr (stdX_congr h), lxIns_congr h]
/-- a text: lo i is the small letter at i, 0 where there is none; L letters stand right before i; m bytes are left -/
def lrn {σ : Type} (U : σ → (Nat → Nat) → Nat → σ × Nat) (lo : Nat → Nat) : Nat → Nat → Nat → σ → Nat → σ × Nat
  | 0, i, L, x, c => ((U x (fun j => lo (i - L + j)) (min L 24)).1, c + (U x (fun j => lo (i - L + j)) (min L 24)).2)
  | m + 1, i, L, x, c => if lo i = 0 then lrn U lo m (i + 1) 0 (U x (fun j => lo (i - L + j)) (min L 24)).1 (c + (U x (fun j => lo (i - L + j)) (min L 24)).2) else lrn U lo m (i + 1) (L + 1) x c
