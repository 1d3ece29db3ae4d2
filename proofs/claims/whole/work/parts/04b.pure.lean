/-! Rows of letters as functions with a length: what two share, their order. -/
/-- r is the number of the first places in which f and g agree, up to n -/
def IsLcp (f g : Nat → Nat) (n r : Nat) : Prop := r ≤ n ∧ (∀ j, j < r → f j = g j) ∧ (r < n → f r ≠ g r)
theorem lcp_ex (f g : Nat → Nat) (n : Nat) : ∃ r, IsLcp f g n r := by
  induction n with
  | zero => exact ⟨0, Nat.le_refl _, fun j h => absurd h (Nat.not_lt_zero _), fun h => absurd h (Nat.not_lt_zero _)⟩
  | succ n ih =>
    obtain ⟨r, h1, h2, h3⟩ := ih
    rcases Nat.lt_or_ge r n with h | h
    · exact ⟨r, by omega, h2, fun _ => h3 h⟩
    · have e : r = n := by omega
      subst e
      by_cases q : f r = g r
      · refine ⟨r + 1, Nat.le_refl _, fun j hj => ?_, fun z => absurd z (Nat.lt_irrefl _)⟩
        rcases Nat.lt_or_ge j r with z | z
        · exact h2 j z
        · have e2 : j = r := by omega
          rw [e2]; exact q
      · exact ⟨r, by omega, h2, fun _ => q⟩
theorem lcp_un {f g : Nat → Nat} {n r q : Nat} (h : IsLcp f g n r) (k : IsLcp f g n q) : r = q := by
  rcases Nat.lt_trichotomy r q with z | z | z
  · exact absurd (k.2.1 r z) (h.2.2 (Nat.lt_of_lt_of_le z k.1))
  · exact z
  · exact absurd (h.2.1 q z) (k.2.2 (Nat.lt_of_lt_of_le z h.1))
theorem lcp_sym {f g : Nat → Nat} {n r : Nat} (h : IsLcp f g n r) : IsLcp g f n r := ⟨h.1, fun j hj => (h.2.1 j hj).symm, fun hr e => h.2.2 hr e.symm⟩
/-- the letters f of a row of n go before the letters g of a row of k -/
def ltF (f : Nat → Nat) (n : Nat) (g : Nat → Nat) (k : Nat) : Prop := ∃ r, IsLcp f g (min n k) r ∧ r ≠ k ∧ (r = n ∨ f r < g r)
/-- the same row -/
def eqF (f : Nat → Nat) (n : Nat) (g : Nat → Nat) (k : Nat) : Prop := n = k ∧ ∀ j, j < n → f j = g j
theorem ltF_iff {f g : Nat → Nat} {n k r : Nat} (h : IsLcp f g (min n k) r) : ltF f n g k ↔ r ≠ k ∧ (r = n ∨ f r < g r) :=
  ⟨fun ⟨q, h1, h2⟩ => by rw [lcp_un h h1]; exact h2, fun h2 => ⟨r, h, h2⟩⟩
theorem eqF_iff {f g : Nat → Nat} {n k r : Nat} (h : IsLcp f g (min n k) r) : eqF f n g k ↔ r = n ∧ r = k := by
  constructor
  · rintro ⟨e, h2⟩
    have : r = n := by
      rcases Nat.lt_or_ge r n with z | z
      · exact absurd (h2 r z) (h.2.2 (by omega))
      · have := h.1; omega
    omega
  · rintro ⟨e1, e2⟩
    exact ⟨by omega, fun j hj => h.2.1 j (by omega)⟩
theorem ltF_tri (f : Nat → Nat) (n : Nat) (g : Nat → Nat) (k : Nat) : ltF f n g k ∨ eqF f n g k ∨ ltF g k f n := by
  obtain ⟨r, hr⟩ := lcp_ex f g (min n k)
  have hr2 : IsLcp g f (min k n) r := by rw [Nat.min_comm]; exact lcp_sym hr
  rw [ltF_iff hr, eqF_iff hr, ltF_iff hr2]
  have h1 := hr.1
  have h3 := hr.2.2
  rcases Nat.lt_or_ge r (min n k) with z | z
  · have := h3 z
    omega
  · omega
theorem ltF_irr {f : Nat → Nat} {n : Nat} : ¬ ltF f n f n := by
  rintro ⟨r, h, h2, h3⟩
  rcases h3 with h3 | h3
  · exact h2 h3
  · exact absurd h3 (Nat.lt_irrefl _)
theorem ltF_eqF {f g : Nat → Nat} {n k : Nat} (h : ltF f n g k) : ¬ eqF f n g k := by
  obtain ⟨r, hr, h2, h3⟩ := h
  rw [eqF_iff hr]
  omega
theorem ltF_trans {f g u : Nat → Nat} {n k m : Nat} (h : ltF f n g k) (h' : ltF g k u m) : ltF f n u m := by
  obtain ⟨r, hr, h2, h3⟩ := h
  obtain ⟨q, hq, k2, k3⟩ := h'
  have hr1 := hr.1
  have hq1 := hq.1
  rcases Nat.lt_trichotomy r q with z | z | z
  · refine ⟨r, ⟨by omega, fun j hj => (hr.2.1 j hj).trans (hq.2.1 j (by omega)), fun hl e => ?_⟩, by omega, ?_⟩
    · have e2 := hq.2.1 r z
      rcases h3 with h3 | h3
      · omega
      · omega
    · have e2 := hq.2.1 r z
      omega
  · subst z
    refine ⟨r, ⟨by omega, fun j hj => (hr.2.1 j hj).trans (hq.2.1 j hj), fun hl e => ?_⟩, by omega, ?_⟩
    · rcases h3 with h3 | h3
      · omega
      · rcases k3 with k3 | k3 <;> omega
    · rcases h3 with h3 | h3
      · exact Or.inl h3
      · rcases k3 with k3 | k3
        · omega
        · exact Or.inr (by omega)
  · have e2 := hr.2.1 q z
    refine ⟨q, ⟨by omega, fun j hj => (hr.2.1 j (by omega)).trans (hq.2.1 j hj), fun hl e => ?_⟩, by omega, ?_⟩
    · rcases k3 with k3 | k3 <;> omega
    · rcases k3 with k3 | k3
      · omega
      · exact Or.inr (by omega)
theorem ltF_asym {f g : Nat → Nat} {n k : Nat} (h : ltF f n g k) : ¬ ltF g k f n := fun z => ltF_irr (ltF_trans h z)
theorem lcp_congr {f f' g g' : Nat → Nat} {n r : Nat} (hf : ∀ j, j < n → f j = f' j) (hg : ∀ j, j < n → g j = g' j) (h : IsLcp f g n r) : IsLcp f' g' n r :=
  ⟨h.1, fun j hj => by rw [← hf j (Nat.lt_of_lt_of_le hj h.1), ← hg j (Nat.lt_of_lt_of_le hj h.1)]; exact h.2.1 j hj, fun hr => by rw [← hf r hr, ← hg r hr]; exact h.2.2 hr⟩
theorem ltF_congr {f f' g g' : Nat → Nat} {n k : Nat} (hf : ∀ j, j < n → f j = f' j) (hg : ∀ j, j < k → g j = g' j) (h : ltF f n g k) : ltF f' n g' k := by
  obtain ⟨r, hr, h2, h3⟩ := h
  refine ⟨r, lcp_congr (fun j hj => hf j (by omega)) (fun j hj => hg j (by omega)) hr, h2, ?_⟩
  have h1 := hr.1
  rcases h3 with h3 | h3
  · exact Or.inl h3
  · rcases Nat.lt_or_ge r n with z | z
    · rw [hf r z, hg r (by omega)] at h3
      exact Or.inr h3
    · exact Or.inl (by omega)
theorem pl_dec {P : Nat → Prop} {r n k : Nat} (h1 : ∀ i, i < r → P i) (h2 : ∀ i, r ≤ i → i < n → ¬ P i) (hk : k < n) : decide (k < r) = true ↔ P k := by
  rw [decide_eq_true_iff]
  exact ⟨h1 k, fun z => Nat.lt_of_not_le (fun y => h2 k y hk z)⟩
/-- how many i below n -/
def cntF (P : Nat → Bool) : Nat → Nat
  | 0 => 0
  | n + 1 => cntF P n + (if P n then 1 else 0)
theorem cntF_le (P : Nat → Bool) : ∀ n, cntF P n ≤ n
  | 0 => Nat.le_refl _
  | n + 1 => by
    have := cntF_le P n
    unfold cntF
    split <;> omega
theorem cntF_t {P : Nat → Bool} {n : Nat} (h : P n = true) : cntF P (n + 1) = cntF P n + 1 := by simp [cntF, h]
theorem cntF_f {P : Nat → Bool} {n : Nat} (h : P n = false) : cntF P (n + 1) = cntF P n := by simp [cntF, h]
theorem cntF_congr {P P' : Nat → Bool} : ∀ {n : Nat}, (∀ i, i < n → P i = P' i) → cntF P n = cntF P' n
  | 0, _ => rfl
  | n + 1, h => by
    unfold cntF
    rw [cntF_congr (fun i hi => h i (Nat.lt_succ_of_lt hi)), h n (Nat.lt_succ_self n)]
def sumF (f : Nat → Nat) : Nat → Nat
  | 0 => 0
  | n + 1 => sumF f n + f n
theorem sumF_congr {f f' : Nat → Nat} : ∀ {n : Nat}, (∀ i, i < n → f i = f' i) → sumF f n = sumF f' n
  | 0, _ => rfl
  | n + 1, h => by
    unfold sumF
    rw [sumF_congr (fun i hi => h i (Nat.lt_succ_of_lt hi)), h n (Nat.lt_succ_self n)]
theorem bI_f : nI 0 = bI false := by decide +kernel
theorem bI_t : nI 1 = bI true := by decide +kernel
theorem nz_inc1 (a : Nat) : nI a + Int32.ofInt 1 = nI (a + 1) := nI_1 a
theorem nz_inc3 (a : Nat) : nI a + Int32.ofInt 3 = nI (a + 3) := nI_add a 3
theorem nz_incm {a : Nat} (h : 0 < a) : nI a + Int32.ofInt (-1) = nI (a - 1) := sb_m1 h
