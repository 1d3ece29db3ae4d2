/-! Class and reference hold the same rows. -/
def Rel (lx : LxT) (ml : MlT) : Prop := ml.2.2.2.1 = lx.2.2.2 ∧ (∀ i, i < lx.2.2.2 → ml.2.1 i = ZX lx i ∧ (∀ k, k < ZX lx i → TM ml i k = TX lx i k) ∧ ml.2.2.1 i = lx.2.2.1 i) ∧ ml.2.2.2.2 = lx.2.1 lx.2.2.2
theorem rel_fn {lx : LxT} {ml : MlT} {f : Nat → Nat} {n r : Nat} (hI : LxI lx) (hR : Rel lx ml) (hp : PLp lx f n r) : FnM ml f n (dB (stdX lx f n r)) r := by
  obtain ⟨r1, r2, r3⟩ := hR
  have key : ∀ i, i < lx.2.2.2 → eqF f n (TM ml i) (ZM ml i) → i = r ∧ stdX lx f n r := by
    intro i hi he
    obtain ⟨q1, q2, _⟩ := r2 i hi
    have e1 : n = ZX lx i := he.1.trans q1
    have e2 : ∀ j, j < ZX lx i → f j = TX lx i j := fun j hj => (he.2 j (by omega)).trans (q2 j hj)
    have hir : i = r := by
      rcases Nat.lt_trichotomy i r with z | z | z
      · have h1 := hp.2.1 i z
        rw [e1] at h1
        exact absurd (ltF_congr (g' := TX lx i) (fun _ _ => rfl) e2 h1) ltF_irr
      · exact z
      · have h1 := lx_sorted hI r i z hi
        have h2 : ltF (TX lx r) (ZX lx r) f n := by
          rw [e1]
          exact ltF_congr (fun _ _ => rfl) (fun j hj => (e2 j hj).symm) h1
        exact absurd h2 (hp.2.2 r (Nat.le_refl _) (by omega))
    rw [hir] at e1 e2 hi
    exact ⟨hir, hi, e1.symm, fun j hj => (e2 j (by omega)).symm⟩
  refine ⟨fun h => ?_, fun i h1 h2 he => ?_, fun h => ⟨by rw [r1]; exact hp.1, fun i hi => ?_, fun i hi hc => ?_⟩⟩
  · obtain ⟨s1, s2, s3⟩ := dB_iff.mp h
    obtain ⟨q1, q2, _⟩ := r2 r s1
    refine ⟨by rw [r1]; exact s1, ?_, fun j hj => ?_⟩
    · show n = ml.2.1 r
      rw [q1]
      exact s2.symm
    · rw [← s3 j hj]
      exact (q2 j (by show j < lx.2.1 (r + 1) - lx.2.1 r; omega)).symm
  · rw [r1] at h2
    obtain ⟨e, hs⟩ := key i h2 he
    have := h1 (dB_t hs)
    omega
  · obtain ⟨q1, q2, _⟩ := r2 i (Nat.lt_of_lt_of_le hi hp.1)
    have h1 := hp.2.1 i hi
    show ltF (TM ml i) (ml.2.1 i) f n
    rw [q1]
    exact ltF_congr (fun j hj => (q2 j hj).symm) (fun _ _ => rfl) h1
  · rw [r1] at hc
    rcases ltF_tri f n (TM ml i) (ZM ml i) with t | t | t
    · exact t
    · have h9 := dB_t (key i hc t).2
      rw [h9] at h
      cases h
    · obtain ⟨q1, q2, _⟩ := r2 i hc
      have t : ltF (TM ml i) (ml.2.1 i) f n := t
      rw [q1] at t
      exact absurd (ltF_congr q2 (fun _ _ => rfl) t) (hp.2.2 i hi hc)
theorem rel_ins {lx : LxT} {ml ml9 : MlT} {f : Nat → Nat} {len p wt : Nat} (hB : LxB lx) (hR : Rel lx ml) (hp : p ≤ lx.2.2.2) (hv : VIns ml.2.2.2.1 p (ZM ml) (TM ml) ml.2.2.1 (ZM ml9) (TM ml9) ml9.2.2.1 f len wt) (hc : ml9.2.2.2.1 = ml.2.2.2.1 + 1) (hl : ml9.2.2.2.2 = ml.2.2.2.2 + len) : Rel (lxIns lx (f, len) p wt) ml9 := by
  obtain ⟨r1, r2, r3⟩ := hR
  obtain ⟨v1, ⟨v2, v3, v4⟩, v5⟩ := lx_ins_view (wd := (f, len)) (wt := wt) hB hp
  obtain ⟨u1, ⟨u2, u3, u4⟩, u5⟩ := hv
  refine ⟨by rw [hc, r1]; rfl, fun i hi => ?_, ?_⟩
  · have hi : i < lx.2.2.2 + 1 := hi
    rcases Nat.lt_trichotomy i p with z | z | z
    · obtain ⟨a1, a2, a3⟩ := v1 i z
      obtain ⟨c1, c2, c3⟩ := u1 i z
      obtain ⟨q1, q2, q3⟩ := r2 i (by omega)
      refine ⟨?_, fun k hk => ?_, ?_⟩
      · rw [a1, ← q1]
        exact c1
      · rw [a1] at hk
        rw [a2 k hk, ← q2 k hk]
        exact c2 k (by show k < ml.2.1 i; rw [q1]; exact hk)
      · rw [a3, ← q3]
        exact c3
    · subst z
      refine ⟨?_, fun k hk => ?_, ?_⟩
      · rw [v2]
        exact u2
      · rw [v2] at hk
        rw [v3 k hk]
        exact u3 k hk
      · rw [v4]
        exact u4
    · obtain ⟨a1, a2, a3⟩ := v5 (i - 1) (by omega) (by omega)
      obtain ⟨c1, c2, c3⟩ := u5 (i - 1) (by omega) (by omega)
      obtain ⟨q1, q2, q3⟩ := r2 (i - 1) (by omega)
      rw [show i - 1 + 1 = i by omega] at a1 a2 a3 c1 c2 c3
      refine ⟨?_, fun k hk => ?_, ?_⟩
      · rw [a1, ← q1]
        exact c1
      · rw [a1] at hk
        rw [a2 k hk, ← q2 k hk]
        exact c2 k (by show k < ml.2.1 (i - 1); rw [q1]; exact hk)
      · rw [a3, ← q3]
        exact c3
  · rw [hl, r3]
    show _ = insSt lx.2.1 p len lx.2.2.2 (lx.2.2.2 + 1)
    unfold insSt
    rw [if_pos (by omega)]
    rfl
theorem rel_del {lx : LxT} {ml ml9 : MlT} {p n : Nat} (hB : LxB lx) (hR : Rel lx ml) (hp : p < lx.2.2.2) (hn : lx.2.1 (p + 1) - lx.2.1 p = n) (hv : VDel ml.2.2.2.1 p (ZM ml) (TM ml) ml.2.2.1 (ZM ml9) (TM ml9) ml9.2.2.1) (hc : ml9.2.2.2.1 = ml.2.2.2.1 - 1) (hl : ml9.2.2.2.2 = ml.2.2.2.2 - n) : Rel (lxDel lx p) ml9 := by
  obtain ⟨r1, r2, r3⟩ := hR
  obtain ⟨v1, v5⟩ := lx_del_view hB hp
  obtain ⟨u1, u5⟩ := hv
  refine ⟨by rw [hc, r1]; rfl, fun i hi => ?_, ?_⟩
  · have hi : i < lx.2.2.2 - 1 := hi
    rcases Nat.lt_or_ge i p with z | z
    · obtain ⟨a1, a2, a3⟩ := v1 i z
      obtain ⟨c1, c2, c3⟩ := u1 i z
      obtain ⟨q1, q2, q3⟩ := r2 i (by omega)
      refine ⟨?_, fun k hk => ?_, ?_⟩
      · rw [a1, ← q1]
        exact c1
      · rw [a1] at hk
        rw [a2 k hk, ← q2 k hk]
        exact c2 k (by show k < ml.2.1 i; rw [q1]; exact hk)
      · rw [a3, ← q3]
        exact c3
    · obtain ⟨a1, a2, a3⟩ := v5 i z (by omega)
      obtain ⟨c1, c2, c3⟩ := u5 i z (by omega)
      obtain ⟨q1, q2, q3⟩ := r2 (i + 1) (by omega)
      refine ⟨?_, fun k hk => ?_, ?_⟩
      · rw [a1, ← q1]
        exact c1
      · rw [a1] at hk
        rw [a2 k hk, ← q2 k hk]
        exact c2 k (by show k < ml.2.1 (i + 1); rw [q1]; exact hk)
      · rw [a3, ← q3]
        exact c3
  · rw [hl, r3]
    show _ = delSt lx.2.1 p (lx.2.1 (p + 1) - lx.2.1 p) lx.2.2.2 (lx.2.2.2 - 1)
    have h1 := lx_mono hB (p + 1) lx.2.2.2 (by omega) (Nat.le_refl _)
    have h2 := lx_mono hB p (p + 1) (by omega) (by omega)
    unfold delSt
    rcases Nat.lt_or_ge p (lx.2.2.2 - 1) with z | z
    · rw [if_pos (by omega), show lx.2.2.2 - 1 + 1 = lx.2.2.2 by omega, hn]
    · rw [if_neg (by omega), show lx.2.2.2 - 1 = p by omega]
      rw [show lx.2.2.2 = p + 1 by omega]
      rw [show lx.2.2.2 = p + 1 by omega] at h1
      omega
theorem rel_set {lx : LxT} {ml : MlT} {p wt : Nat} (hR : Rel lx ml) : Rel (lxSet lx p wt) (mlSet ml p wt) := by
  obtain ⟨r1, r2, r3⟩ := hR
  refine ⟨r1, fun i hi => ?_, r3⟩
  obtain ⟨q1, q2, q3⟩ := r2 i hi
  refine ⟨q1, q2, ?_⟩
  show va_up ml.2.2.1 p wt i = va_up lx.2.2.1 p wt i
  unfold va_up
  by_cases e : i = p
  · rw [if_pos e, if_pos e]
  · rw [if_neg e, if_neg e]
    exact q3
theorem rel_room {lx : LxT} {ml : MlT} {n : Nat} (hR : Rel lx ml) : (ml.2.2.2.1 < 600 ∧ ml.2.2.2.2 + n ≤ 6000) ↔ roomX lx n := by
  unfold roomX
  rw [hR.1, hR.2.2]
theorem rel_nr {lx : LxT} {ml : MlT} {q : Nat → Nat} {n i : Nat} (hR : Rel lx ml) (hi : i < lx.2.2.2) : nrF q n (TM ml i) (ZM ml i) = nrF q n (TX lx i) (ZX lx i) := by
  obtain ⟨q1, q2, _⟩ := hR.2.1 i hi
  show nrF q n (TM ml i) (ml.2.1 i) = _
  rw [q1]
  exact nrF_congr (fun _ _ => rfl) q2
