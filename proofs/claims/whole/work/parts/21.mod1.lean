/-! The reference: tape, compare, find, move, add, taken. -/
abbrev MlT : Type := (Nat → Nat) × (Nat → Nat) × (Nat → Nat) × Nat × Nat
abbrev ZM (ml : MlT) (i : Nat) : Nat := ml.2.1 i
abbrev TM (ml : MlT) (i : Nat) : Nat → Nat := fun k => ml.1 (24 * i + k)
def MlB (ml : MlT) : Prop := ml.2.2.2.1 ≤ 600 ∧ (∀ j, ml.2.1 j ≤ 24) ∧ (∀ j, ml.1 j < 128) ∧ (∀ j, ml.2.2.1 j ≤ 1000000000000) ∧ ml.2.2.2.2 ≤ 6000
def smlI (x : Int32) : Int32 := if ¬ x < nI 65 ∧ ¬ nI 90 < x then x + nI 32 else x
theorem lowN_iff {x : Int32} : lowN x ≠ 0 ↔ ((97 ≤ x.toInt ∧ x.toInt ≤ 122) ∨ (65 ≤ x.toInt ∧ x.toInt ≤ 90)) := by
  have e1 : (nI 97).toInt = 97 := nI_toInt (by decide)
  have e2 : (nI 122).toInt = 122 := nI_toInt (by decide)
  have e3 : (nI 65).toInt = 65 := nI_toInt (by decide)
  have e4 : (nI 90).toInt = 90 := nI_toInt (by decide)
  have hs : smB x = true ↔ (97 ≤ x.toInt ∧ x.toInt ≤ 122) := by
    unfold smB
    rw [decide_eq_true_iff, Int32.lt_iff_toInt_lt, Int32.lt_iff_toInt_lt, e1, e2]
    omega
  have hu : (¬ x < nI 65 ∧ ¬ nI 90 < x) ↔ (65 ≤ x.toInt ∧ x.toInt ≤ 90) := by
    rw [Int32.lt_iff_toInt_lt, Int32.lt_iff_toInt_lt, e3, e4]
    omega
  rcases lowN_or x with ⟨h1, h2⟩ | ⟨h1, h2, h3⟩
  · rw [h2]
    constructor
    · intro h
      exact absurd rfl h
    · intro h
      exfalso
      unfold smI at h1
      by_cases hb : smB x = true
      · rw [if_pos hb] at h1
        have := hs.mp hb
        rw [h1] at this
        exact absurd this.1 (by decide +kernel)
      · rw [if_neg hb] at h1
        have hq : ¬ x < nI 65 ∧ ¬ nI 90 < x := hu.mpr (h.resolve_left (fun z => hb (hs.mpr z)))
        rw [if_pos hq] at h1
        have h0 : ¬ x < 0 := fun z => hq.1 (Int32.lt_trans z (by decide +kernel))
        obtain ⟨n, hn, rfl⟩ := nI_of h0
        have h3 := hq.1
        have h4 := hq.2
        rw [nI_ltI hn (by decide)] at h3
        rw [nI_ltI (by decide) hn] at h4
        rw [pk_sub (by omega), nI_add] at h1
        exact absurd (by rw [h1]; decide +kernel) (nI_pos (n := n - 65 + 97) (by omega))
  · refine ⟨fun _ => ?_, fun _ => by omega⟩
    unfold smI at h3
    by_cases hb : smB x = true
    · exact Or.inl (hs.mp hb)
    · rw [if_neg hb] at h3
      by_cases hq : ¬ x < nI 65 ∧ ¬ nI 90 < x
      · exact Or.inr (hu.mp hq)
      · rw [if_neg hq] at h3
        exact absurd (by rw [← h3]; decide +kernel) (nI_pos (n := lowN x) (by omega))
theorem sml_low {x : Int32} (h : lowN x ≠ 0) : smlI x = nI (lowN x) ∧ lowN x < 128 := by
  rcases lowN_or x with ⟨h1, h2⟩ | ⟨h1, h2, h3⟩
  · exact absurd h2 h
  · refine ⟨?_, by omega⟩
    rw [← h3]
    unfold smlI smI
    by_cases hb : smB x = true
    · obtain ⟨n, g1, g2, rfl⟩ := smB_nat hb
      rw [if_pos hb, if_neg (fun z => z.2 ((nI_ltI (by decide) (by omega)).mpr (by omega)))]
    · rw [if_neg hb]
      by_cases hq : ¬ x < nI 65 ∧ ¬ nI 90 < x
      · rw [if_pos hq, if_pos hq]
        have h0 : ¬ x < 0 := fun z => hq.1 (Int32.lt_trans z (by decide +kernel))
        obtain ⟨n, hn, rfl⟩ := nI_of h0
        have h5 := hq.1
        rw [nI_ltI hn (by decide)] at h5
        rw [pk_sub (by omega), nI_add, nI_add]
        congr 1
        omega
      · unfold smI at h3
        rw [if_neg hb, if_neg hq] at h3
        exact absurd (by rw [← h3]; decide +kernel) (nI_pos (n := lowN x) (by omega))
theorem sub_eq0 {p q : Nat} (hp : p < 2 ^ 30) (hq : q < 2 ^ 30) : nI p - nI q = 0 ↔ p = q := by
  constructor
  · intro h
    have h1 := pk_sub_toInt hp hq
    rw [h] at h1
    have h2 : (0 : Int32).toInt = 0 := rfl
    omega
  · intro h
    rw [h, pk_sub (Nat.le_refl _), Nat.sub_self]
    rfl
theorem sub_ge0 {p q : Nat} (hp : p < 2 ^ 30) (hq : q < 2 ^ 30) : 0 ≤ nI p - nI q ↔ q ≤ p := by
  have h1 := pk_sub_toInt hp hq
  rw [Int32.le_iff_toInt_le, h1]
  have h2 : (0 : Int32).toInt = 0 := rfl
  omega
/-- what compare answers -/
def CmpIs (f : Nat → Nat) (n : Nat) (g : Nat → Nat) (z : Nat) (x : Int32) : Prop := (ltF f n g z ∧ x = -1) ∨ (eqF f n g z ∧ x = nI 0) ∨ (ltF g z f n ∧ x = nI 1)
theorem cmp_ex (f : Nat → Nat) (n : Nat) (g : Nat → Nat) (z : Nat) : ∃ x, CmpIs f n g z x := by
  rcases ltF_tri f n g z with h | h | h
  · exact ⟨_, Or.inl ⟨h, rfl⟩⟩
  · exact ⟨_, Or.inr (Or.inl ⟨h, rfl⟩)⟩
  · exact ⟨_, Or.inr (Or.inr ⟨h, rfl⟩)⟩
theorem cpy_lt {f g : Nat → Nat} {sp dp n M : Nat} (hf : ∀ j, f j < M) (hg : ∀ j, g j < M) : ∀ j, va_cpy f g sp dp n j < M := fun j => by
  unfold va_cpy
  split
  · exact hf _
  · exact hg _
theorem cpy_0 (f g : Nat → Nat) (sp dp : Nat) : va_cpy f g sp dp 0 = g := by
  funext j
  unfold va_cpy
  rw [if_neg (by omega)]
theorem cpy_step {f g : Nat → Nat} {sp dp k v : Nat} (hv : v = f (sp + k)) : va_up (va_cpy f g sp dp k) (dp + k) v = va_cpy f g sp dp (k + 1) := by
  funext j
  unfold va_up va_cpy
  by_cases e : j = dp + k
  · rw [if_pos e, if_pos (by omega), hv, e]
    exact cg (by omega)
  · rw [if_neg e]
    by_cases q : dp ≤ j ∧ j < dp + k
    · rw [if_pos q, if_pos (by omega)]
    · rw [if_neg q, if_neg (by omega)]
theorem up_le {f : Nat → Nat} {k v M : Nat} (h : ∀ j, f j ≤ M) (hv : v ≤ M) : ∀ j, va_up f k v j ≤ M := fun j => by
  unfold va_up
  split
  · exact hv
  · exact h j
theorem up_ne {f : Nat → Nat} {k v j : Nat} (h : j ≠ k) : va_up f k v j = f j := if_neg h
theorem up_eq {f : Nat → Nat} {k v : Nat} : va_up f k v k = v := if_pos rfl
/-- the rows from k on have gone one place on -/
def ShM (ml ml2 : MlT) (k : Nat) : Prop := MlB ml2 ∧ ml2.2.2.2.1 = ml.2.2.2.1 ∧ ml2.2.2.2.2 = ml.2.2.2.2 ∧ (∀ i, i < k → ml2.2.1 i = ml.2.1 i ∧ (∀ j, j < 24 → ml2.1 (24 * i + j) = ml.1 (24 * i + j)) ∧ ml2.2.2.1 i = ml.2.2.1 i) ∧ (∀ i, k ≤ i → i < ml.2.2.2.1 → ml2.2.1 (i + 1) = ml.2.1 i ∧ (∀ j, j < 24 → ml2.1 (24 * (i + 1) + j) = ml.1 (24 * i + j)) ∧ ml2.2.2.1 (i + 1) = ml.2.2.1 i)
theorem shM_step {ml ml2 : MlT} {k : Nat} (h : ShM ml ml2 k) (hk : 0 < k) (hc : k ≤ ml.2.2.2.1) : ShM ml (va_cpy ml2.1 ml2.1 (24 * (k - 1)) (24 * k) 24, va_up ml2.2.1 k (ml2.2.1 (k - 1)), va_up ml2.2.2.1 k (ml2.2.2.1 (k - 1)), ml2.2.2.2.1, ml2.2.2.2.2) (k - 1) := by
  obtain ⟨⟨b1, b2, b3, b4, b5⟩, h2, h3, h4, h5⟩ := h
  refine ⟨⟨b1, up_le b2 (b2 _), cpy_lt b3 b3, up_le b4 (b4 _), b5⟩, h2, h3, fun i hi => ?_, fun i hi hc2 => ?_⟩
  · obtain ⟨q1, q2, q3⟩ := h4 i (by omega)
    refine ⟨by show va_up _ _ _ i = _; rw [up_ne (by omega)]; exact q1, fun j hj => ?_, by show va_up _ _ _ i = _; rw [up_ne (by omega)]; exact q3⟩
    show va_cpy ml2.1 ml2.1 _ _ _ _ = _
    rw [pk_cpy_out (Or.inl (by omega))]
    exact q2 j hj
  · rcases Nat.lt_or_ge i k with z | z
    · have e : i = k - 1 := by omega
      obtain ⟨q1, q2, q3⟩ := h4 (k - 1) (by omega)
      rw [e, show k - 1 + 1 = k by omega]
      refine ⟨by show va_up _ _ _ k = _; rw [up_eq]; exact q1, fun j hj => ?_, by show va_up _ _ _ k = _; rw [up_eq]; exact q3⟩
      show va_cpy ml2.1 ml2.1 _ _ _ _ = _
      rw [pk_cpy_in (by omega) (by omega), ← q2 j hj]
      exact cg (by omega)
    · obtain ⟨q1, q2, q3⟩ := h5 i z hc2
      refine ⟨by show va_up _ _ _ (i + 1) = _; rw [up_ne (by omega)]; exact q1, fun j hj => ?_, by show va_up _ _ _ (i + 1) = _; rw [up_ne (by omega)]; exact q3⟩
      show va_cpy ml2.1 ml2.1 _ _ _ _ = _
      rw [pk_cpy_out (Or.inr (by omega))]
      exact q2 j hj
theorem shM_ins {ml ml2 : MlT} {p n wt : Nat} {f : Nat → Nat} (hM : MlB ml) (h : ShM ml ml2 p) (hp : p ≤ ml.2.2.2.1) (hn : n ≤ 24) (hf : ∀ j, j < n → f j < 128) (hr : ml.2.2.2.1 < 600 ∧ ml.2.2.2.2 + n ≤ 6000) (hw : wt ≤ 1000000000000) :
    MlB (va_cpy f ml2.1 0 (24 * p) n, va_up ml2.2.1 p n, va_up ml2.2.2.1 p wt, ml2.2.2.2.1 + 1, ml2.2.2.2.2 + n) ∧ VIns ml.2.2.2.1 p (ZM ml) (TM ml) ml.2.2.1 (ZM (va_cpy f ml2.1 0 (24 * p) n, va_up ml2.2.1 p n, va_up ml2.2.2.1 p wt, ml2.2.2.2.1 + 1, ml2.2.2.2.2 + n)) (TM (va_cpy f ml2.1 0 (24 * p) n, va_up ml2.2.1 p n, va_up ml2.2.2.1 p wt, ml2.2.2.2.1 + 1, ml2.2.2.2.2 + n)) (va_up ml2.2.2.1 p wt) f n wt := by
  obtain ⟨⟨b1, b2, b3, b4, b5⟩, h2, h3, h4, h5⟩ := h
  have hz := hM.2.1
  refine ⟨⟨by show ml2.2.2.2.1 + 1 ≤ 600; omega, up_le b2 hn, fun j => ?_, up_le b4 hw, by show ml2.2.2.2.2 + n ≤ 6000; omega⟩, fun i hi => ?_, ⟨?_, fun k hk => ?_, ?_⟩, fun i hi hc => ?_⟩
  · show va_cpy f ml2.1 0 (24 * p) n j < 128
    unfold va_cpy
    by_cases q : 24 * p ≤ j ∧ j < 24 * p + n
    · rw [if_pos q]
      exact hf _ (by omega)
    · rw [if_neg q]
      exact b3 j
  · obtain ⟨q1, q2, q3⟩ := h4 i hi
    refine ⟨by show va_up _ _ _ i = _; rw [up_ne (by omega)]; exact q1, fun k hk => ?_, by show va_up _ _ _ i = _; rw [up_ne (by omega)]; exact q3⟩
    show va_cpy f ml2.1 0 (24 * p) n (24 * i + k) = ml.1 (24 * i + k)
    have := hz i
    have hk : k < ml.2.1 i := hk
    rw [pk_cpy_out (Or.inl (by omega))]
    exact q2 k (by omega)
  · exact up_eq
  · show va_cpy f ml2.1 0 (24 * p) n (24 * p + k) = f k
    rw [pk_cpy_in (by omega) (by omega)]
    exact cg (by omega)
  · exact up_eq
  · obtain ⟨q1, q2, q3⟩ := h5 i hi hc
    refine ⟨by show va_up _ _ _ (i + 1) = _; rw [up_ne (by omega)]; exact q1, fun k hk => ?_, by show va_up _ _ _ (i + 1) = _; rw [up_ne (by omega)]; exact q3⟩
    show va_cpy f ml2.1 0 (24 * p) n (24 * (i + 1) + k) = ml.1 (24 * i + k)
    have := hz i
    have hk : k < ml.2.1 i := hk
    rw [pk_cpy_out (Or.inr (by omega))]
    exact q2 k (by omega)
abbrev rmX6_isSmall : Room := { frames := 0, cells := 0, slots := 0, locals := 0 }
set_option maxHeartbeats 4000000 in
set_option maxRecDepth 100000 in
theorem mX6_isSmall (l : Launch) (D : va_G) (b : Nat → Nat) (cs : Nat → ClassId) (mt : (Nat → Int32) × Nat) (ml : (Nat → Nat) × (Nat → Nat) × (Nat → Nat) × Nat × Nat) (mr : (Nat → Nat) × (Nat → Nat) × (Nat → Nat) × (Nat → Nat) × Nat) (mk : (Nat → Bool) × (Nat → Nat) × (Nat → Nat)) (x : Int32) : Met l yX6_isSmall wsX6_isSmall rmX6_isSmall (wdP D vwCl (wM b cs mt ml mr mk) (tyX cs) [.int (x)]) (rdQ (.int (bI (smB x)))) 0 0 (fun _ => False) := by
  refine nz_metRi (by decide) rfl (Nat.le_of_ble_eq_true rfl) (bI_nar _) ?_
  intro p e s m args below meth c Q hx hb hml hts hown hP hK hret ls hl
  have hl : lv_has ls 1 [(0, .int (x))] := hl
  have hown : s.vm.findClass RX6 = some m.cls := hown
  refine lv_iload_n hx hb dX6_isSmall_0 rfl (lv_at hl 0 rfl) ?_
  refine lv_bipush (v := nI 97) hx hb dX6_isSmall_1 (by decide +kernel) ?_
  refine lv_icmp_lt (tgt := 16) hx hb dX6_isSmall_3 (by decide) (fun c_3 => ?_) (fun c_3 => ?_)
  · refine lv_iconst (v := nI 0) hx hb dX6_isSmall_16 (by decide +kernel) ?_
    have hz : smB x = false := by unfold smB; rw [decide_eq_false_iff_not]; intro hh; first | exact hh.1 c_3 | exact hh.2 c_9
    rw [hz] at hret
    refine nz_top bI_f ?_
    exact hret 17 ls dX6_isSmall_17
  · refine lv_iload_n hx hb dX6_isSmall_6 rfl (lv_at hl 0 rfl) ?_
    refine lv_bipush (v := nI 122) hx hb dX6_isSmall_7 (by decide +kernel) ?_
    refine lv_icmp_gt (tgt := 16) hx hb dX6_isSmall_9 (by decide) (fun c_9 => ?_) (fun c_9 => ?_)
    · refine lv_iconst (v := nI 0) hx hb dX6_isSmall_16 (by decide +kernel) ?_
      have hz : smB x = false := by unfold smB; rw [decide_eq_false_iff_not]; intro hh; first | exact hh.1 c_3 | exact hh.2 c_9
      rw [hz] at hret
      refine nz_top bI_f ?_
      exact hret 17 ls dX6_isSmall_17
    · refine lv_iconst (v := nI 1) hx hb dX6_isSmall_12 (by decide +kernel) ?_
      refine lv_goto (tgt := 17) hx hb dX6_isSmall_13 (by decide) ?_
      have hz : smB x = true := by unfold smB; rw [decide_eq_true_iff]; exact ⟨c_3, c_9⟩
      rw [hz] at hret
      refine nz_top bI_t ?_
      exact hret 17 ls dX6_isSmall_17
abbrev rmX6_small : Room := { frames := 0, cells := 0, slots := 0, locals := 0 }
set_option maxHeartbeats 4000000 in
set_option maxRecDepth 100000 in
theorem mX6_small (l : Launch) (D : va_G) (b : Nat → Nat) (cs : Nat → ClassId) (mt : (Nat → Int32) × Nat) (ml : (Nat → Nat) × (Nat → Nat) × (Nat → Nat) × Nat × Nat) (mr : (Nat → Nat) × (Nat → Nat) × (Nat → Nat) × (Nat → Nat) × Nat) (mk : (Nat → Bool) × (Nat → Nat) × (Nat → Nat)) (x : Int32) : Met l yX6_small wsX6_small rmX6_small (wdP D vwCl (wM b cs mt ml mr mk) (tyX cs) [.int (x)]) (rdQ (.int (smlI x))) 0 0 (fun _ => False) := by
  refine nz_metRi (by decide) rfl (Nat.le_of_ble_eq_true rfl) rfl ?_
  intro p e s m args below meth c Q hx hb hml hts hown hP hK hret ls hl
  have hl : lv_has ls 1 [(0, .int (x))] := hl
  have hown : s.vm.findClass RX6 = some m.cls := hown
  refine lv_iload_n hx hb dX6_small_0 rfl (lv_at hl 0 rfl) ?_
  refine lv_bipush (v := nI 65) hx hb dX6_small_1 (by decide +kernel) ?_
  refine lv_icmp_lt (tgt := 19) hx hb dX6_small_3 (by decide) (fun c_3 => ?_) (fun c_3 => ?_)
  · refine lv_iload_n hx hb dX6_small_19 rfl (lv_at hl 0 rfl) ?_
    have hz : smlI x = x := by unfold smlI; rw [if_neg (by intro hh; first | exact hh.1 c_3 | exact hh.2 c_9)]
    rw [hz] at hret
    exact hret 20 ls dX6_small_20
  · refine lv_iload_n hx hb dX6_small_6 rfl (lv_at hl 0 rfl) ?_
    refine lv_bipush (v := nI 90) hx hb dX6_small_7 (by decide +kernel) ?_
    refine lv_icmp_gt (tgt := 19) hx hb dX6_small_9 (by decide) (fun c_9 => ?_) (fun c_9 => ?_)
    · refine lv_iload_n hx hb dX6_small_19 rfl (lv_at hl 0 rfl) ?_
      have hz : smlI x = x := by unfold smlI; rw [if_neg (by intro hh; first | exact hh.1 c_3 | exact hh.2 c_9)]
      rw [hz] at hret
      exact hret 20 ls dX6_small_20
    · refine lv_iload_n hx hb dX6_small_12 rfl (lv_at hl 0 rfl) ?_
      refine lv_bipush (v := nI 32) hx hb dX6_small_13 (by decide +kernel) ?_
      refine lv_iadd hx hb dX6_small_15 ?_
      refine lv_goto (tgt := 20) hx hb dX6_small_16 (by decide) ?_
      have hz : smlI x = x + nI (32) := by unfold smlI; rw [if_pos ⟨c_3, c_9⟩]
      rw [hz] at hret
      exact hret 20 ls dX6_small_20
abbrev rmX6_isLetter : Room := { frames := 0, cells := 0, slots := 0, locals := 0 }
set_option maxHeartbeats 4000000 in
set_option maxRecDepth 100000 in
theorem mX6_isLetter (l : Launch) (D : va_G) (b : Nat → Nat) (cs : Nat → ClassId) (mt : (Nat → Int32) × Nat) (ml : (Nat → Nat) × (Nat → Nat) × (Nat → Nat) × Nat × Nat) (mr : (Nat → Nat) × (Nat → Nat) × (Nat → Nat) × (Nat → Nat) × Nat) (mk : (Nat → Bool) × (Nat → Nat) × (Nat → Nat)) (x : Int32) : Met l yX6_isLetter wsX6_isLetter rmX6_isLetter (wdP D vwCl (wM b cs mt ml mr mk) (tyX cs) [.int (x)]) (rdQ (.int (bI (decide (lowN x ≠ 0))))) 0 0 (fun _ => False) := by
  have e97 : (nI 97).toInt = 97 := nI_toInt (by decide)
  have e122 : (nI 122).toInt = 122 := nI_toInt (by decide)
  have e65 : (nI 65).toInt = 65 := nI_toInt (by decide)
  have e90 : (nI 90).toInt = 90 := nI_toInt (by decide)
  refine nz_metRi (by decide) rfl (Nat.le_of_ble_eq_true rfl) (bI_nar _) ?_
  intro p e s m args below meth c Q hx hb hml hts hown hP hK hret ls hl
  have hl : lv_has ls 1 [(0, .int (x))] := hl
  have hown : s.vm.findClass RX6 = some m.cls := hown
  refine lv_iload_n hx hb dX6_isLetter_0 rfl (lv_at hl 0 rfl) ?_
  refine lv_bipush (v := nI 97) hx hb dX6_isLetter_1 (by decide +kernel) ?_
  refine lv_icmp_lt (tgt := 12) hx hb dX6_isLetter_3 (by decide) (fun c_3 => ?_) (fun c_3 => ?_)
  · refine lv_iload_n hx hb dX6_isLetter_12 rfl (lv_at hl 0 rfl) ?_
    refine lv_bipush (v := nI 65) hx hb dX6_isLetter_13 (by decide +kernel) ?_
    refine lv_icmp_lt (tgt := 28) hx hb dX6_isLetter_15 (by decide) (fun c_15 => ?_) (fun c_15 => ?_)
    · refine lv_iconst (v := nI 0) hx hb dX6_isLetter_28 (by decide +kernel) ?_
      simp only [Int32.lt_iff_toInt_lt, Int32.le_iff_toInt_le, e97, e122, e65, e90] at *
      have hz : decide (lowN x ≠ 0) = false := by rw [decide_eq_false_iff_not, lowN_iff]; omega
      rw [hz] at hret
      refine nz_top bI_f ?_
      exact hret 29 ls dX6_isLetter_29
    · refine lv_iload_n hx hb dX6_isLetter_18 rfl (lv_at hl 0 rfl) ?_
      refine lv_bipush (v := nI 90) hx hb dX6_isLetter_19 (by decide +kernel) ?_
      refine lv_icmp_gt (tgt := 28) hx hb dX6_isLetter_21 (by decide) (fun c_21 => ?_) (fun c_21 => ?_)
      · refine lv_iconst (v := nI 0) hx hb dX6_isLetter_28 (by decide +kernel) ?_
        simp only [Int32.lt_iff_toInt_lt, Int32.le_iff_toInt_le, e97, e122, e65, e90] at *
        have hz : decide (lowN x ≠ 0) = false := by rw [decide_eq_false_iff_not, lowN_iff]; omega
        rw [hz] at hret
        refine nz_top bI_f ?_
        exact hret 29 ls dX6_isLetter_29
      · refine lv_iconst (v := nI 1) hx hb dX6_isLetter_24 (by decide +kernel) ?_
        refine lv_goto (tgt := 29) hx hb dX6_isLetter_25 (by decide) ?_
        simp only [Int32.lt_iff_toInt_lt, Int32.le_iff_toInt_le, e97, e122, e65, e90] at *
        have hz : decide (lowN x ≠ 0) = true := by rw [decide_eq_true_iff, lowN_iff]; omega
        rw [hz] at hret
        refine nz_top bI_t ?_
        exact hret 29 ls dX6_isLetter_29
  · refine lv_iload_n hx hb dX6_isLetter_6 rfl (lv_at hl 0 rfl) ?_
    refine lv_bipush (v := nI 122) hx hb dX6_isLetter_7 (by decide +kernel) ?_
    refine lv_icmp_le (tgt := 24) hx hb dX6_isLetter_9 (by decide) (fun c_9 => ?_) (fun c_9 => ?_)
    · refine lv_iconst (v := nI 1) hx hb dX6_isLetter_24 (by decide +kernel) ?_
      refine lv_goto (tgt := 29) hx hb dX6_isLetter_25 (by decide) ?_
      simp only [Int32.lt_iff_toInt_lt, Int32.le_iff_toInt_le, e97, e122, e65, e90] at *
      have hz : decide (lowN x ≠ 0) = true := by rw [decide_eq_true_iff, lowN_iff]; omega
      rw [hz] at hret
      refine nz_top bI_t ?_
      exact hret 29 ls dX6_isLetter_29
    · refine lv_iload_n hx hb dX6_isLetter_12 rfl (lv_at hl 0 rfl) ?_
      refine lv_bipush (v := nI 65) hx hb dX6_isLetter_13 (by decide +kernel) ?_
      refine lv_icmp_lt (tgt := 28) hx hb dX6_isLetter_15 (by decide) (fun c_15 => ?_) (fun c_15 => ?_)
      · refine lv_iconst (v := nI 0) hx hb dX6_isLetter_28 (by decide +kernel) ?_
        simp only [Int32.lt_iff_toInt_lt, Int32.le_iff_toInt_le, e97, e122, e65, e90] at *
        have hz : decide (lowN x ≠ 0) = false := by rw [decide_eq_false_iff_not, lowN_iff]; omega
        rw [hz] at hret
        refine nz_top bI_f ?_
        exact hret 29 ls dX6_isLetter_29
      · refine lv_iload_n hx hb dX6_isLetter_18 rfl (lv_at hl 0 rfl) ?_
        refine lv_bipush (v := nI 90) hx hb dX6_isLetter_19 (by decide +kernel) ?_
        refine lv_icmp_gt (tgt := 28) hx hb dX6_isLetter_21 (by decide) (fun c_21 => ?_) (fun c_21 => ?_)
        · refine lv_iconst (v := nI 0) hx hb dX6_isLetter_28 (by decide +kernel) ?_
          simp only [Int32.lt_iff_toInt_lt, Int32.le_iff_toInt_le, e97, e122, e65, e90] at *
          have hz : decide (lowN x ≠ 0) = false := by rw [decide_eq_false_iff_not, lowN_iff]; omega
          rw [hz] at hret
          refine nz_top bI_f ?_
          exact hret 29 ls dX6_isLetter_29
        · refine lv_iconst (v := nI 1) hx hb dX6_isLetter_24 (by decide +kernel) ?_
          refine lv_goto (tgt := 29) hx hb dX6_isLetter_25 (by decide) ?_
          simp only [Int32.lt_iff_toInt_lt, Int32.le_iff_toInt_le, e97, e122, e65, e90] at *
          have hz : decide (lowN x ≠ 0) = true := by rw [decide_eq_true_iff, lowN_iff]; omega
          rw [hz] at hret
          refine nz_top bI_t ?_
          exact hret 29 ls dX6_isLetter_29
abbrev rmX6_feed : Room := { frames := 0, cells := 0, slots := 0, locals := 0 }
set_option maxHeartbeats 4000000 in
set_option maxRecDepth 100000 in
theorem mX6_feed (l : Launch) (D : va_G) (b : Nat → Nat) (cs : Nat → ClassId) (mt : (Nat → Int32) × Nat) (ml : (Nat → Nat) × (Nat → Nat) × (Nat → Nat) × Nat × Nat) (mr : (Nat → Nat) × (Nat → Nat) × (Nat → Nat) × (Nat → Nat) × Nat) (mk : (Nat → Bool) × (Nat → Nat) × (Nat → Nat)) (v : Int32) (bb : Bool) (hb2 : wInjM b) (hT : mt.2 ≤ 400) (hbb : bb = true ↔ mt.2 ≤ 396) : Met l yX6_feed wsX6_feed rmX6_feed (wdP D vwCl (wM b cs mt ml mr mk) (tyX cs) [.ref (b 0), .int (v)]) (wrQ (some (.int (bif bb then nI (mt.2 + 1 + 1 + 1 + 1) else (-2)))) (fun H => va_P D vwCl (wM b cs (bif bb then tpFeed mt v else mt) ml mr mk) H) (inM b)) 0 0 (inM b) := by
  refine nz_metWi (by decide) rfl (Nat.le_of_ble_eq_true rfl) rfl ?_
  intro p e s m args below meth c Q hx hb hml hts hown hP hK hret ls hl
  have hl : lv_has ls 3 [(0, .ref (b 0)), (1, .int (v))] := hl
  have hown : s.vm.findClass RX6 = some m.cls := hown
  have hinX6 : ∀ w ∈ u_ws RX6 TX6 15, w ∈ wsX6_feed := by decide +kernel
  have hS : va_S (inM b) s.heap s.heap [] := va_S.rf
  obtain ⟨H, hH⟩ : ∃ H, H = s.heap := ⟨_, rfl⟩
  obtain ⟨locs, hlocs⟩ : ∃ locs : List Loc, locs = [] := ⟨_, rfl⟩
  have hP : va_P D vwCl (wM b cs mt ml mr mk) H := hH ▸ hP
  have hS : va_S (inM b) s.heap H locs := by rw [hH, hlocs]; exact va_S.rf
  suffices hgo : W p l e rmX6_feed s m args below meth c H locs 0 0 Q (F0 m 0 ls []) by rw [hH, hlocs] at hgo; exact hgo
  clear hH hlocs
  refine lv_aload_n hx hb dX6_feed_0 rfl (lv_at hl 0 rfl) ?_
  refine va_get (D := D) (ci := 6) (v := .int (nI (mt.2))) (C := RX6) (T := TX6) (N := 15) hx hb hts hinX6 hown hK hP 0 rfl rfl 1 (by decide) (hts (.fieldLink RX6 50 "TypoSuggesterModel" "tapeSize" "I") (by decide +kernel)) (fun _ h9 => h9) rfl dX6_feed_1 ?_
  refine lv_iconst (v := nI 4) hx hb dX6_feed_4 (by decide +kernel) ?_
  refine nz_iadd (a := mt.2) (b := 4) hx hb dX6_feed_5 ?_
  refine lv_sipush (v := nI 400) hx hb dX6_feed_6 (by decide +kernel) ?_
  refine nz_cle (a := mt.2 + 4) (b := 400) (tgt := 15) hx hb dX6_feed_9 (by decide) (by omega) (by omega) (fun c_9 => ?_) (fun c_9 => ?_)
  · refine lv_bipush (v := nI 24) hx hb dX6_feed_15 (by decide +kernel) ?_
    refine lv_istore_n (lv' := [(2, .int (nI (24))), (0, .ref (b 0)), (1, .int (v))]) hx hb dX6_feed_17 rfl hl (by decide) rfl (fun ls hl => ?_)
    refine lv_iload_n hx hb dX6_feed_18 rfl (lv_at hl 0 rfl) ?_
    refine nz_iflt (a := 24) (tgt := 51) hx hb dX6_feed_19 (by decide) (by omega) ?_
    refine lv_aload_n hx hb dX6_feed_22 rfl (lv_at hl 1 rfl) ?_
    refine va_get (D := D) (ci := 6) (v := .ref (b 1)) (C := RX6) (T := TX6) (N := 15) hx hb hts hinX6 hown hK hP 0 rfl rfl 0 (by decide) (hts (.fieldLink RX6 7 "TypoSuggesterModel" "tape" "[B") (by decide +kernel)) (fun _ h9 => h9) rfl dX6_feed_23 ?_
    refine lv_aload_n hx hb dX6_feed_26 rfl (lv_at hl 1 rfl) ?_
    refine va_get (D := D) (ci := 6) (v := .int (nI (mt.2))) (C := RX6) (T := TX6) (N := 15) hx hb hts hinX6 hown hK hP 0 rfl rfl 1 (by decide) (hts (.fieldLink RX6 50 "TypoSuggesterModel" "tapeSize" "I") (by decide +kernel)) (fun _ h9 => h9) rfl dX6_feed_27 ?_
    refine lv_iload_n hx hb dX6_feed_30 rfl (lv_at hl 2 rfl) ?_
    refine lv_iload_n hx hb dX6_feed_31 rfl (lv_at hl 0 rfl) ?_
    refine lv_ishr hx hb dX6_feed_32 ?_
    refine lv_i2b (v := (v >>> ((nI (24)) &&& 31)).toInt8.toInt32) hx hb dX6_feed_33 rfl ?_
    refine nz_bastR (f := mt.1) (k := mt.2) (v := (v >>> ((nI (24)) &&& 31)).toInt8.toInt32) (ws' := wM b cs (upd mt.1 mt.2 ((v >>> ((nI (24)) &&& 31)).toInt8.toInt32).toInt8.toInt32, mt.2) ml mr mk) hx hb hK hP (wM_D hb2) hS 1 0 rfl rfl (by omega) (by decide) dX6_feed_34 rfl (fun H locs hP hS => ?_)
    refine lv_aload_n hx hb dX6_feed_35 rfl (lv_at hl 1 rfl) ?_
    refine lv_dup hx hb dX6_feed_36 rfl ?_
    refine va_get (D := D) (ci := 6) (v := .int (nI (mt.2))) (C := RX6) (T := TX6) (N := 15) hx hb hts hinX6 hown hK hP 0 rfl rfl 1 (by decide) (hts (.fieldLink RX6 50 "TypoSuggesterModel" "tapeSize" "I") (by decide +kernel)) (fun _ h9 => h9) rfl dX6_feed_37 ?_
    refine lv_iconst (v := nI 1) hx hb dX6_feed_40 (by decide +kernel) ?_
    refine nz_iadd (a := mt.2) (b := 1) hx hb dX6_feed_41 ?_
    refine nz_put (D := D) (ci := 6) (v := .int (nI (mt.2 + 1))) (ty := .int) (ws' := wM b cs (upd mt.1 mt.2 ((v >>> ((nI (24)) &&& 31)).toInt8.toInt32).toInt8.toInt32, mt.2 + 1) ml mr mk) (C := RX6) (T := TX6) (N := 15) hx hb hts hinX6 tyX6 tyX6_ok nmX6 hown hK hP (wM_D hb2) hS 0 rfl rfl 1 (by decide) (hts (.fieldLink RX6 50 "TypoSuggesterModel" "tapeSize" "I") (by decide +kernel)) (fun _ h9 => h9) rfl (by decide +kernel) rfl rfl (Nat.le_of_ble_eq_true rfl) dX6_feed_42 rfl (fun H locs hP hS => ?_)
    refine lv_iinc (v := nI (16)) (lv' := [(2, .int (nI (16))), (0, .ref (b 0)), (1, .int (v))]) hx hb dX6_feed_45 hl (k := 0) rfl (by decide +kernel) (by decide) rfl (fun ls hl => ?_)
    refine lv_goto (tgt := 18) hx hb dX6_feed_48 (by decide) ?_
    refine lv_iload_n hx hb dX6_feed_18 rfl (lv_at hl 0 rfl) ?_
    refine nz_iflt (a := 16) (tgt := 51) hx hb dX6_feed_19 (by decide) (by omega) ?_
    refine lv_aload_n hx hb dX6_feed_22 rfl (lv_at hl 1 rfl) ?_
    refine va_get (D := D) (ci := 6) (v := .ref (b 1)) (C := RX6) (T := TX6) (N := 15) hx hb hts hinX6 hown hK hP 0 rfl rfl 0 (by decide) (hts (.fieldLink RX6 7 "TypoSuggesterModel" "tape" "[B") (by decide +kernel)) (fun _ h9 => h9) rfl dX6_feed_23 ?_
    refine lv_aload_n hx hb dX6_feed_26 rfl (lv_at hl 1 rfl) ?_
    refine va_get (D := D) (ci := 6) (v := .int (nI (mt.2 + 1))) (C := RX6) (T := TX6) (N := 15) hx hb hts hinX6 hown hK hP 0 rfl rfl 1 (by decide) (hts (.fieldLink RX6 50 "TypoSuggesterModel" "tapeSize" "I") (by decide +kernel)) (fun _ h9 => h9) rfl dX6_feed_27 ?_
    refine lv_iload_n hx hb dX6_feed_30 rfl (lv_at hl 2 rfl) ?_
    refine lv_iload_n hx hb dX6_feed_31 rfl (lv_at hl 0 rfl) ?_
    refine lv_ishr hx hb dX6_feed_32 ?_
    refine lv_i2b (v := (v >>> ((nI (16)) &&& 31)).toInt8.toInt32) hx hb dX6_feed_33 rfl ?_
    refine nz_bastR (f := upd mt.1 mt.2 ((v >>> ((nI (24)) &&& 31)).toInt8.toInt32).toInt8.toInt32) (k := mt.2 + 1) (v := (v >>> ((nI (16)) &&& 31)).toInt8.toInt32) (ws' := wM b cs (upd (upd mt.1 mt.2 ((v >>> ((nI (24)) &&& 31)).toInt8.toInt32).toInt8.toInt32) (mt.2 + 1) ((v >>> ((nI (16)) &&& 31)).toInt8.toInt32).toInt8.toInt32, mt.2 + 1) ml mr mk) hx hb hK hP (wM_D hb2) hS 1 0 rfl rfl (by omega) (by decide) dX6_feed_34 rfl (fun H locs hP hS => ?_)
    refine lv_aload_n hx hb dX6_feed_35 rfl (lv_at hl 1 rfl) ?_
    refine lv_dup hx hb dX6_feed_36 rfl ?_
    refine va_get (D := D) (ci := 6) (v := .int (nI (mt.2 + 1))) (C := RX6) (T := TX6) (N := 15) hx hb hts hinX6 hown hK hP 0 rfl rfl 1 (by decide) (hts (.fieldLink RX6 50 "TypoSuggesterModel" "tapeSize" "I") (by decide +kernel)) (fun _ h9 => h9) rfl dX6_feed_37 ?_
    refine lv_iconst (v := nI 1) hx hb dX6_feed_40 (by decide +kernel) ?_
    refine nz_iadd (a := mt.2 + 1) (b := 1) hx hb dX6_feed_41 ?_
    refine nz_put (D := D) (ci := 6) (v := .int (nI (mt.2 + 1 + 1))) (ty := .int) (ws' := wM b cs (upd (upd mt.1 mt.2 ((v >>> ((nI (24)) &&& 31)).toInt8.toInt32).toInt8.toInt32) (mt.2 + 1) ((v >>> ((nI (16)) &&& 31)).toInt8.toInt32).toInt8.toInt32, mt.2 + 1 + 1) ml mr mk) (C := RX6) (T := TX6) (N := 15) hx hb hts hinX6 tyX6 tyX6_ok nmX6 hown hK hP (wM_D hb2) hS 0 rfl rfl 1 (by decide) (hts (.fieldLink RX6 50 "TypoSuggesterModel" "tapeSize" "I") (by decide +kernel)) (fun _ h9 => h9) rfl (by decide +kernel) rfl rfl (Nat.le_of_ble_eq_true rfl) dX6_feed_42 rfl (fun H locs hP hS => ?_)
    refine lv_iinc (v := nI (8)) (lv' := [(2, .int (nI (8))), (0, .ref (b 0)), (1, .int (v))]) hx hb dX6_feed_45 hl (k := 0) rfl (by decide +kernel) (by decide) rfl (fun ls hl => ?_)
    refine lv_goto (tgt := 18) hx hb dX6_feed_48 (by decide) ?_
    refine lv_iload_n hx hb dX6_feed_18 rfl (lv_at hl 0 rfl) ?_
    refine nz_iflt (a := 8) (tgt := 51) hx hb dX6_feed_19 (by decide) (by omega) ?_
    refine lv_aload_n hx hb dX6_feed_22 rfl (lv_at hl 1 rfl) ?_
    refine va_get (D := D) (ci := 6) (v := .ref (b 1)) (C := RX6) (T := TX6) (N := 15) hx hb hts hinX6 hown hK hP 0 rfl rfl 0 (by decide) (hts (.fieldLink RX6 7 "TypoSuggesterModel" "tape" "[B") (by decide +kernel)) (fun _ h9 => h9) rfl dX6_feed_23 ?_
    refine lv_aload_n hx hb dX6_feed_26 rfl (lv_at hl 1 rfl) ?_
    refine va_get (D := D) (ci := 6) (v := .int (nI (mt.2 + 1 + 1))) (C := RX6) (T := TX6) (N := 15) hx hb hts hinX6 hown hK hP 0 rfl rfl 1 (by decide) (hts (.fieldLink RX6 50 "TypoSuggesterModel" "tapeSize" "I") (by decide +kernel)) (fun _ h9 => h9) rfl dX6_feed_27 ?_
    refine lv_iload_n hx hb dX6_feed_30 rfl (lv_at hl 2 rfl) ?_
    refine lv_iload_n hx hb dX6_feed_31 rfl (lv_at hl 0 rfl) ?_
    refine lv_ishr hx hb dX6_feed_32 ?_
    refine lv_i2b (v := (v >>> ((nI (8)) &&& 31)).toInt8.toInt32) hx hb dX6_feed_33 rfl ?_
    refine nz_bastR (f := upd (upd mt.1 mt.2 ((v >>> ((nI (24)) &&& 31)).toInt8.toInt32).toInt8.toInt32) (mt.2 + 1) ((v >>> ((nI (16)) &&& 31)).toInt8.toInt32).toInt8.toInt32) (k := mt.2 + 1 + 1) (v := (v >>> ((nI (8)) &&& 31)).toInt8.toInt32) (ws' := wM b cs (upd (upd (upd mt.1 mt.2 ((v >>> ((nI (24)) &&& 31)).toInt8.toInt32).toInt8.toInt32) (mt.2 + 1) ((v >>> ((nI (16)) &&& 31)).toInt8.toInt32).toInt8.toInt32) (mt.2 + 1 + 1) ((v >>> ((nI (8)) &&& 31)).toInt8.toInt32).toInt8.toInt32, mt.2 + 1 + 1) ml mr mk) hx hb hK hP (wM_D hb2) hS 1 0 rfl rfl (by omega) (by decide) dX6_feed_34 rfl (fun H locs hP hS => ?_)
    refine lv_aload_n hx hb dX6_feed_35 rfl (lv_at hl 1 rfl) ?_
    refine lv_dup hx hb dX6_feed_36 rfl ?_
    refine va_get (D := D) (ci := 6) (v := .int (nI (mt.2 + 1 + 1))) (C := RX6) (T := TX6) (N := 15) hx hb hts hinX6 hown hK hP 0 rfl rfl 1 (by decide) (hts (.fieldLink RX6 50 "TypoSuggesterModel" "tapeSize" "I") (by decide +kernel)) (fun _ h9 => h9) rfl dX6_feed_37 ?_
    refine lv_iconst (v := nI 1) hx hb dX6_feed_40 (by decide +kernel) ?_
    refine nz_iadd (a := mt.2 + 1 + 1) (b := 1) hx hb dX6_feed_41 ?_
    refine nz_put (D := D) (ci := 6) (v := .int (nI (mt.2 + 1 + 1 + 1))) (ty := .int) (ws' := wM b cs (upd (upd (upd mt.1 mt.2 ((v >>> ((nI (24)) &&& 31)).toInt8.toInt32).toInt8.toInt32) (mt.2 + 1) ((v >>> ((nI (16)) &&& 31)).toInt8.toInt32).toInt8.toInt32) (mt.2 + 1 + 1) ((v >>> ((nI (8)) &&& 31)).toInt8.toInt32).toInt8.toInt32, mt.2 + 1 + 1 + 1) ml mr mk) (C := RX6) (T := TX6) (N := 15) hx hb hts hinX6 tyX6 tyX6_ok nmX6 hown hK hP (wM_D hb2) hS 0 rfl rfl 1 (by decide) (hts (.fieldLink RX6 50 "TypoSuggesterModel" "tapeSize" "I") (by decide +kernel)) (fun _ h9 => h9) rfl (by decide +kernel) rfl rfl (Nat.le_of_ble_eq_true rfl) dX6_feed_42 rfl (fun H locs hP hS => ?_)
    refine lv_iinc (v := nI (0)) (lv' := [(2, .int (nI (0))), (0, .ref (b 0)), (1, .int (v))]) hx hb dX6_feed_45 hl (k := 0) rfl (by decide +kernel) (by decide) rfl (fun ls hl => ?_)
    refine lv_goto (tgt := 18) hx hb dX6_feed_48 (by decide) ?_
    refine lv_iload_n hx hb dX6_feed_18 rfl (lv_at hl 0 rfl) ?_
    refine nz_iflt (a := 0) (tgt := 51) hx hb dX6_feed_19 (by decide) (by omega) ?_
    refine lv_aload_n hx hb dX6_feed_22 rfl (lv_at hl 1 rfl) ?_
    refine va_get (D := D) (ci := 6) (v := .ref (b 1)) (C := RX6) (T := TX6) (N := 15) hx hb hts hinX6 hown hK hP 0 rfl rfl 0 (by decide) (hts (.fieldLink RX6 7 "TypoSuggesterModel" "tape" "[B") (by decide +kernel)) (fun _ h9 => h9) rfl dX6_feed_23 ?_
    refine lv_aload_n hx hb dX6_feed_26 rfl (lv_at hl 1 rfl) ?_
    refine va_get (D := D) (ci := 6) (v := .int (nI (mt.2 + 1 + 1 + 1))) (C := RX6) (T := TX6) (N := 15) hx hb hts hinX6 hown hK hP 0 rfl rfl 1 (by decide) (hts (.fieldLink RX6 50 "TypoSuggesterModel" "tapeSize" "I") (by decide +kernel)) (fun _ h9 => h9) rfl dX6_feed_27 ?_
    refine lv_iload_n hx hb dX6_feed_30 rfl (lv_at hl 2 rfl) ?_
    refine lv_iload_n hx hb dX6_feed_31 rfl (lv_at hl 0 rfl) ?_
    refine lv_ishr hx hb dX6_feed_32 ?_
    refine lv_i2b (v := (v >>> ((nI (0)) &&& 31)).toInt8.toInt32) hx hb dX6_feed_33 rfl ?_
    refine nz_bastR (f := upd (upd (upd mt.1 mt.2 ((v >>> ((nI (24)) &&& 31)).toInt8.toInt32).toInt8.toInt32) (mt.2 + 1) ((v >>> ((nI (16)) &&& 31)).toInt8.toInt32).toInt8.toInt32) (mt.2 + 1 + 1) ((v >>> ((nI (8)) &&& 31)).toInt8.toInt32).toInt8.toInt32) (k := mt.2 + 1 + 1 + 1) (v := (v >>> ((nI (0)) &&& 31)).toInt8.toInt32) (ws' := wM b cs (upd (upd (upd (upd mt.1 mt.2 ((v >>> ((nI (24)) &&& 31)).toInt8.toInt32).toInt8.toInt32) (mt.2 + 1) ((v >>> ((nI (16)) &&& 31)).toInt8.toInt32).toInt8.toInt32) (mt.2 + 1 + 1) ((v >>> ((nI (8)) &&& 31)).toInt8.toInt32).toInt8.toInt32) (mt.2 + 1 + 1 + 1) ((v >>> ((nI (0)) &&& 31)).toInt8.toInt32).toInt8.toInt32, mt.2 + 1 + 1 + 1) ml mr mk) hx hb hK hP (wM_D hb2) hS 1 0 rfl rfl (by omega) (by decide) dX6_feed_34 rfl (fun H locs hP hS => ?_)
    refine lv_aload_n hx hb dX6_feed_35 rfl (lv_at hl 1 rfl) ?_
    refine lv_dup hx hb dX6_feed_36 rfl ?_
    refine va_get (D := D) (ci := 6) (v := .int (nI (mt.2 + 1 + 1 + 1))) (C := RX6) (T := TX6) (N := 15) hx hb hts hinX6 hown hK hP 0 rfl rfl 1 (by decide) (hts (.fieldLink RX6 50 "TypoSuggesterModel" "tapeSize" "I") (by decide +kernel)) (fun _ h9 => h9) rfl dX6_feed_37 ?_
    refine lv_iconst (v := nI 1) hx hb dX6_feed_40 (by decide +kernel) ?_
    refine nz_iadd (a := mt.2 + 1 + 1 + 1) (b := 1) hx hb dX6_feed_41 ?_
    refine nz_put (D := D) (ci := 6) (v := .int (nI (mt.2 + 1 + 1 + 1 + 1))) (ty := .int) (ws' := wM b cs (upd (upd (upd (upd mt.1 mt.2 ((v >>> ((nI (24)) &&& 31)).toInt8.toInt32).toInt8.toInt32) (mt.2 + 1) ((v >>> ((nI (16)) &&& 31)).toInt8.toInt32).toInt8.toInt32) (mt.2 + 1 + 1) ((v >>> ((nI (8)) &&& 31)).toInt8.toInt32).toInt8.toInt32) (mt.2 + 1 + 1 + 1) ((v >>> ((nI (0)) &&& 31)).toInt8.toInt32).toInt8.toInt32, mt.2 + 1 + 1 + 1 + 1) ml mr mk) (C := RX6) (T := TX6) (N := 15) hx hb hts hinX6 tyX6 tyX6_ok nmX6 hown hK hP (wM_D hb2) hS 0 rfl rfl 1 (by decide) (hts (.fieldLink RX6 50 "TypoSuggesterModel" "tapeSize" "I") (by decide +kernel)) (fun _ h9 => h9) rfl (by decide +kernel) rfl rfl (Nat.le_of_ble_eq_true rfl) dX6_feed_42 rfl (fun H locs hP hS => ?_)
    refine lv_iinc (v := (-8)) (lv' := [(2, .int ((-8))), (0, .ref (b 0)), (1, .int (v))]) hx hb dX6_feed_45 hl (k := 0) rfl (by decide +kernel) (by decide) rfl (fun ls hl => ?_)
    refine lv_goto (tgt := 18) hx hb dX6_feed_48 (by decide) ?_
    refine lv_iload_n hx hb dX6_feed_18 rfl (lv_at hl 0 rfl) ?_
    refine lv_if_lt (tgt := 51) hx hb dX6_feed_19 (by decide) (fun _ => ?_) (fun z => absurd (by decide +kernel) z)
    refine lv_aload_n hx hb dX6_feed_51 rfl (lv_at hl 1 rfl) ?_
    refine va_get (D := D) (ci := 6) (v := .int (nI (mt.2 + 1 + 1 + 1 + 1))) (C := RX6) (T := TX6) (N := 15) hx hb hts hinX6 hown hK hP 0 rfl rfl 1 (by decide) (hts (.fieldLink RX6 50 "TypoSuggesterModel" "tapeSize" "I") (by decide +kernel)) (fun _ h9 => h9) rfl dX6_feed_52 ?_
    have hbv : bb = true := hbb.mpr (by omega)
    subst hbv
    exact hret 55 ls H locs dX6_feed_55 hP hS
  · refine lv_bipush (v := (-2)) hx hb dX6_feed_12 (by decide +kernel) ?_
    have hbv : bb = false := by cases bb with | false => rfl | true => exact absurd (hbb.mp rfl) (by omega)
    subst hbv
    exact hret 14 ls H locs dX6_feed_14 hP hS
abbrev rmX6_cut : Room := { frames := 0, cells := 0, slots := 0, locals := 0 }
set_option maxHeartbeats 4000000 in
set_option maxRecDepth 100000 in
theorem mX6_cut (l : Launch) (D : va_G) (b : Nat → Nat) (cs : Nat → ClassId) (mt : (Nat → Int32) × Nat) (ml : (Nat → Nat) × (Nat → Nat) × (Nat → Nat) × Nat × Nat) (mr : (Nat → Nat) × (Nat → Nat) × (Nat → Nat) × (Nat → Nat) × Nat) (mk : (Nat → Bool) × (Nat → Nat) × (Nat → Nat)) (x : Int32) (hb2 : wInjM b) (hT : mt.2 ≤ 400) : Met l yX6_cut wsX6_cut rmX6_cut (wdP D vwCl (wM b cs mt ml mr mk) (tyX cs) [.ref (b 0), .int (x)]) (wrQ (some (.int (cutI mt.2 x))) (fun H => va_P D vwCl (wM b cs (mt.1, cutN mt.2 x) ml mr mk) H) (inM b)) 0 0 (inM b) := by
  refine nz_metWi (by decide) rfl (Nat.le_of_ble_eq_true rfl) rfl ?_
  intro p e s m args below meth c Q hx hb hml hts hown hP hK hret ls hl
  have hl : lv_has ls 3 [(0, .ref (b 0)), (1, .int (x))] := hl
  have hown : s.vm.findClass RX6 = some m.cls := hown
  have hinX6 : ∀ w ∈ u_ws RX6 TX6 15, w ∈ wsX6_cut := by decide +kernel
  have hS : va_S (inM b) s.heap s.heap [] := va_S.rf
  obtain ⟨H, hH⟩ : ∃ H, H = s.heap := ⟨_, rfl⟩
  obtain ⟨locs, hlocs⟩ : ∃ locs : List Loc, locs = [] := ⟨_, rfl⟩
  have hP : va_P D vwCl (wM b cs mt ml mr mk) H := hH ▸ hP
  have hS : va_S (inM b) s.heap H locs := by rw [hH, hlocs]; exact va_S.rf
  suffices hgo : W p l e rmX6_cut s m args below meth c H locs 0 0 Q (F0 m 0 ls []) by rw [hH, hlocs] at hgo; exact hgo
  clear hH hlocs
  refine lv_iload_n hx hb dX6_cut_0 rfl (lv_at hl 1 rfl) ?_
  refine lv_if_lt (tgt := 12) hx hb dX6_cut_1 (by decide) (fun c_1 => ?_) (fun c_1 => ?_)
  · have hnc : ¬ (¬ x < 0 ∧ x.toNatClampNeg ≤ mt.2) := fun h => h.1 c_1
    refine lv_iconst (v := (-1)) hx hb dX6_cut_12 (by decide +kernel) ?_
    have hz1 : cutI mt.2 x = -1 := if_neg hnc
    have hz2 : cutN mt.2 x = mt.2 := if_neg hnc
    rw [hz1, hz2] at hret
    exact hret 13 ls H locs dX6_cut_13 hP hS
  · obtain ⟨n1, hn1, rfl⟩ := nI_of c_1
    refine lv_iload_n hx hb dX6_cut_4 rfl (lv_at hl 1 rfl) ?_
    refine lv_aload_n hx hb dX6_cut_5 rfl (lv_at hl 0 rfl) ?_
    refine va_get (D := D) (ci := 6) (v := .int (nI (mt.2))) (C := RX6) (T := TX6) (N := 15) hx hb hts hinX6 hown hK hP 0 rfl rfl 1 (by decide) (hts (.fieldLink RX6 50 "TypoSuggesterModel" "tapeSize" "I") (by decide +kernel)) (fun _ h9 => h9) rfl dX6_cut_6 ?_
    refine nz_cle (a := n1) (b := mt.2) (tgt := 14) hx hb dX6_cut_9 (by decide) (by omega) (by omega) (fun c_9 => ?_) (fun c_9 => ?_)
    · refine lv_aload_n hx hb dX6_cut_14 rfl (lv_at hl 0 rfl) ?_
      refine va_get (D := D) (ci := 6) (v := .int (nI (mt.2))) (C := RX6) (T := TX6) (N := 15) hx hb hts hinX6 hown hK hP 0 rfl rfl 1 (by decide) (hts (.fieldLink RX6 50 "TypoSuggesterModel" "tapeSize" "I") (by decide +kernel)) (fun _ h9 => h9) rfl dX6_cut_15 ?_
      refine lv_iload_n hx hb dX6_cut_18 rfl (lv_at hl 1 rfl) ?_
      refine nz_isub (a := mt.2) (b := n1) hx hb dX6_cut_19 (by omega) ?_
      refine lv_istore_n (lv' := [(2, .int (nI (mt.2 - n1))), (0, .ref (b 0)), (1, .int (nI (n1)))]) hx hb dX6_cut_20 rfl hl (by decide) rfl (fun ls hl => ?_)
      refine lv_aload_n hx hb dX6_cut_21 rfl (lv_at hl 1 rfl) ?_
      refine lv_iload_n hx hb dX6_cut_22 rfl (lv_at hl 2 rfl) ?_
      refine nz_put (D := D) (ci := 6) (v := .int (nI (n1))) (ty := .int) (ws' := wM b cs (mt.1, n1) ml mr mk) (C := RX6) (T := TX6) (N := 15) hx hb hts hinX6 tyX6 tyX6_ok nmX6 hown hK hP (wM_D hb2) hS 0 rfl rfl 1 (by decide) (hts (.fieldLink RX6 50 "TypoSuggesterModel" "tapeSize" "I") (by decide +kernel)) (fun _ h9 => h9) rfl (by decide +kernel) rfl rfl (Nat.le_of_ble_eq_true rfl) dX6_cut_23 rfl (fun H locs hP hS => ?_)
      refine lv_iload_n hx hb dX6_cut_26 rfl (lv_at hl 0 rfl) ?_
      have hz1 : cutI mt.2 (nI n1) = nI (mt.2 - n1) := by unfold cutI; rw [nI_clamp hn1, if_pos ⟨nI_pos hn1, c_9⟩]
      have hz2 : cutN mt.2 (nI n1) = n1 := by unfold cutN; rw [nI_clamp hn1, if_pos ⟨nI_pos hn1, c_9⟩]
      rw [hz1, hz2] at hret
      exact hret 27 ls H locs dX6_cut_27 hP hS
    · have hnc : ¬ (¬ nI n1 < 0 ∧ (nI n1).toNatClampNeg ≤ mt.2) := fun h => by have := h.2; rw [nI_clamp hn1] at this; omega
      refine lv_iconst (v := (-1)) hx hb dX6_cut_12 (by decide +kernel) ?_
      have hz1 : cutI mt.2 (nI n1) = -1 := if_neg hnc
      have hz2 : cutN mt.2 (nI n1) = mt.2 := if_neg hnc
      rw [hz1, hz2] at hret
      exact hret 13 ls H locs dX6_cut_13 hP hS
abbrev rmX6_compare : Room := { frames := 1, cells := 0, slots := 0, locals := 20 }
set_option maxHeartbeats 4000000 in
set_option maxRecDepth 100000 in
theorem mX6_compare (l : Launch) (D : va_G) (b : Nat → Nat) (cs : Nat → ClassId) (mt : (Nat → Int32) × Nat) (ml : (Nat → Nat) × (Nat → Nat) × (Nat → Nat) × Nat × Nat) (mr : (Nat → Nat) × (Nat → Nat) × (Nat → Nat) × (Nat → Nat) × Nat) (mk : (Nat → Bool) × (Nat → Nat) × (Nat → Nat)) (fr : Nat) (ln : Nat) (ti : Nat) (x : Int32) (hM : MlB ml) (hfl : fr + ln ≤ 400) (hln : ln ≤ 24) (hlet : ∀ j, j < ln → lowN (mt.1 (fr + j)) ≠ 0) (hti : ti ≤ 600) (hcx : CmpIs (fun j => lowN (mt.1 (fr + j))) ln (TM ml ti) (ZM ml ti) x) : Met l yX6_compare wsX6_compare rmX6_compare (wdP D vwCl (wM b cs mt ml mr mk) (tyX cs) [.ref (b 0), .int (nI (fr)), .int (nI (ln)), .int (nI (ti))]) (rdQ (.int (x))) 0 0 (fun _ => False) := by
  obtain ⟨hM1, hM2, hM3, hM4, hM5⟩ := id hM
  obtain ⟨r, hr⟩ := lcp_ex (fun j => lowN (mt.1 (fr + j))) (TM ml ti) (min ln (ZM ml ti))
  have hr0 : IsLcp (TM ml ti) (fun j => lowN (mt.1 (fr + j))) (min (ZM ml ti) ln) r := by rw [Nat.min_comm]; exact lcp_sym hr
  have hxx : (r ≠ ml.2.1 ti ∧ (r = ln ∨ lowN (mt.1 (fr + r)) < ml.1 (24 * ti + r))) ∧ x = -1 ∨ (r = ln ∧ r = ml.2.1 ti) ∧ x = nI 0 ∨ (r ≠ ln ∧ (r = ml.2.1 ti ∨ ml.1 (24 * ti + r) < lowN (mt.1 (fr + r)))) ∧ x = nI 1 := by
    unfold CmpIs at hcx
    rw [ltF_iff hr, eqF_iff hr, ltF_iff hr0] at hcx
    exact hcx
  have hr1 : r ≤ min ln (ml.2.1 ti) := hr.1
  have hr2 : ∀ j, j < r → lowN (mt.1 (fr + j)) = ml.1 (24 * ti + j) := hr.2.1
  have hr3 : r < min ln (ml.2.1 ti) → lowN (mt.1 (fr + r)) ≠ ml.1 (24 * ti + r) := hr.2.2
  have hz24 := hM2 ti
  refine nz_metRi (by decide) rfl (Nat.le_of_ble_eq_true rfl) rfl ?_
  intro p e s m args below meth c Q hx hb hml hts hown hP hK hret ls hl
  have hl : lv_has ls 6 [(0, .ref (b 0)), (1, .int (nI (fr))), (2, .int (nI (ln))), (3, .int (nI (ti)))] := hl
  have hown : s.vm.findClass RX6 = some m.cls := hown
  have hinX6 : ∀ w ∈ u_ws RX6 TX6 15, w ∈ wsX6_compare := by decide +kernel
  refine lv_iconst (v := nI 0) hx hb dX6_compare_0 (by decide +kernel) ?_
  refine lv_istore (lv' := [(4, .int (nI (0))), (0, .ref (b 0)), (1, .int (nI (fr))), (2, .int (nI (ln))), (3, .int (nI (ti)))]) hx hb dX6_compare_1 hl (by decide) rfl (fun ls hl => ?_)
  have loop : ∀ (fuel : Nat) (k : Nat), (k ≤ r) → r - k < fuel → ∀ ls : Array Slot, lv_has ls 6 [(0, .ref (b 0)), (1, .int (nI (fr))), (2, .int (nI (ln))), (3, .int (nI (ti))), (4, .int (nI (k)))] → W p l e rmX6_compare s m args below meth c s.heap [] 0 0 Q (F0 m 3 ls []) := by
    intro fuel
    induction fuel with
    | zero => intro k hk hf; exact absurd hf (Nat.not_lt_zero _)
    | succ fuel ih =>
      intro k hk hf ls hl
      refine lv_iload hx hb dX6_compare_3 (lv_at hl 4 rfl) ?_
      refine lv_iload_n hx hb dX6_compare_5 rfl (lv_at hl 2 rfl) ?_
      refine nz_cge (a := k) (b := ln) (tgt := 69) hx hb dX6_compare_6 (by decide) (by omega) (by omega) (fun c_6 => ?_) (fun c_6 => ?_)
      · have hkr : k = r := by omega
        subst hkr
        refine lv_iload_n hx hb dX6_compare_69 rfl (lv_at hl 2 rfl) ?_
        refine lv_aload_n hx hb dX6_compare_70 rfl (lv_at hl 0 rfl) ?_
        refine va_get (D := D) (ci := 6) (v := .ref (b 3)) (C := RX6) (T := TX6) (N := 15) hx hb hts hinX6 hown hK hP 0 rfl rfl 5 (by decide) (hts (.fieldLink RX6 16 "TypoSuggesterModel" "sizes" "[I") (by decide +kernel)) (fun _ h9 => h9) rfl dX6_compare_71 ?_
        refine lv_iload_n hx hb dX6_compare_74 rfl (lv_at hl 3 rfl) ?_
        refine nz_iald (f := ml.2.1) (k := ti) hx hb hK hP 3 1 rfl rfl (by omega) (by decide) dX6_compare_75 ?_
        refine nz_cge (a := ln) (b := ml.2.1 ti) (tgt := 83) hx hb dX6_compare_76 (by decide) (by omega) (by omega) (fun c_76 => ?_) (fun c_76 => ?_)
        · refine lv_iload_n hx hb dX6_compare_83 rfl (lv_at hl 2 rfl) ?_
          refine lv_aload_n hx hb dX6_compare_84 rfl (lv_at hl 0 rfl) ?_
          refine va_get (D := D) (ci := 6) (v := .ref (b 3)) (C := RX6) (T := TX6) (N := 15) hx hb hts hinX6 hown hK hP 0 rfl rfl 5 (by decide) (hts (.fieldLink RX6 16 "TypoSuggesterModel" "sizes" "[I") (by decide +kernel)) (fun _ h9 => h9) rfl dX6_compare_85 ?_
          refine lv_iload_n hx hb dX6_compare_88 rfl (lv_at hl 3 rfl) ?_
          refine nz_iald (f := ml.2.1) (k := ti) hx hb hK hP 3 1 rfl rfl (by omega) (by decide) dX6_compare_89 ?_
          refine nz_cle (a := ln) (b := ml.2.1 ti) (tgt := 97) hx hb dX6_compare_90 (by decide) (by omega) (by omega) (fun c_90 => ?_) (fun c_90 => ?_)
          · refine lv_iconst (v := nI 0) hx hb dX6_compare_97 (by decide +kernel) ?_
            have hxv : x = nI (0) := by
              rcases hxx with ⟨h, e⟩ | ⟨h, e⟩ | ⟨h, e⟩
              · first | exact e | (exfalso; omega)
              · first | exact e | (exfalso; omega)
              · first | exact e | (exfalso; omega)
            rw [hxv] at hret
            exact hret 98 ls dX6_compare_98
          · refine lv_iconst (v := nI 1) hx hb dX6_compare_93 (by decide +kernel) ?_
            refine lv_goto (tgt := 98) hx hb dX6_compare_94 (by decide) ?_
            have hxv : x = nI (1) := by
              rcases hxx with ⟨h, e⟩ | ⟨h, e⟩ | ⟨h, e⟩
              · first | exact e | (exfalso; omega)
              · first | exact e | (exfalso; omega)
              · first | exact e | (exfalso; omega)
            rw [hxv] at hret
            exact hret 98 ls dX6_compare_98
        · refine lv_iconst (v := (-1)) hx hb dX6_compare_79 (by decide +kernel) ?_
          refine lv_goto (tgt := 98) hx hb dX6_compare_80 (by decide) ?_
          have hxv : x = (-1) := by
            rcases hxx with ⟨h, e⟩ | ⟨h, e⟩ | ⟨h, e⟩
            · first | exact e | (exfalso; omega)
            · first | exact e | (exfalso; omega)
            · first | exact e | (exfalso; omega)
          rw [hxv] at hret
          exact hret 98 ls dX6_compare_98
      · refine lv_iload hx hb dX6_compare_9 (lv_at hl 4 rfl) ?_
        refine lv_aload_n hx hb dX6_compare_11 rfl (lv_at hl 0 rfl) ?_
        refine va_get (D := D) (ci := 6) (v := .ref (b 3)) (C := RX6) (T := TX6) (N := 15) hx hb hts hinX6 hown hK hP 0 rfl rfl 5 (by decide) (hts (.fieldLink RX6 16 "TypoSuggesterModel" "sizes" "[I") (by decide +kernel)) (fun _ h9 => h9) rfl dX6_compare_12 ?_
        refine lv_iload_n hx hb dX6_compare_15 rfl (lv_at hl 3 rfl) ?_
        refine nz_iald (f := ml.2.1) (k := ti) hx hb hK hP 3 1 rfl rfl (by omega) (by decide) dX6_compare_16 ?_
        refine nz_cge (a := k) (b := ml.2.1 ti) (tgt := 69) hx hb dX6_compare_17 (by decide) (by omega) (by omega) (fun c_17 => ?_) (fun c_17 => ?_)
        · have hkr : k = r := by omega
          subst hkr
          refine lv_iload_n hx hb dX6_compare_69 rfl (lv_at hl 2 rfl) ?_
          refine lv_aload_n hx hb dX6_compare_70 rfl (lv_at hl 0 rfl) ?_
          refine va_get (D := D) (ci := 6) (v := .ref (b 3)) (C := RX6) (T := TX6) (N := 15) hx hb hts hinX6 hown hK hP 0 rfl rfl 5 (by decide) (hts (.fieldLink RX6 16 "TypoSuggesterModel" "sizes" "[I") (by decide +kernel)) (fun _ h9 => h9) rfl dX6_compare_71 ?_
          refine lv_iload_n hx hb dX6_compare_74 rfl (lv_at hl 3 rfl) ?_
          refine nz_iald (f := ml.2.1) (k := ti) hx hb hK hP 3 1 rfl rfl (by omega) (by decide) dX6_compare_75 ?_
          refine nz_cge (a := ln) (b := ml.2.1 ti) (tgt := 83) hx hb dX6_compare_76 (by decide) (by omega) (by omega) (fun c_76 => ?_) (fun c_76 => ?_)
          · refine lv_iload_n hx hb dX6_compare_83 rfl (lv_at hl 2 rfl) ?_
            refine lv_aload_n hx hb dX6_compare_84 rfl (lv_at hl 0 rfl) ?_
            refine va_get (D := D) (ci := 6) (v := .ref (b 3)) (C := RX6) (T := TX6) (N := 15) hx hb hts hinX6 hown hK hP 0 rfl rfl 5 (by decide) (hts (.fieldLink RX6 16 "TypoSuggesterModel" "sizes" "[I") (by decide +kernel)) (fun _ h9 => h9) rfl dX6_compare_85 ?_
            refine lv_iload_n hx hb dX6_compare_88 rfl (lv_at hl 3 rfl) ?_
            refine nz_iald (f := ml.2.1) (k := ti) hx hb hK hP 3 1 rfl rfl (by omega) (by decide) dX6_compare_89 ?_
            refine nz_cle (a := ln) (b := ml.2.1 ti) (tgt := 97) hx hb dX6_compare_90 (by decide) (by omega) (by omega) (fun c_90 => ?_) (fun c_90 => ?_)
            · refine lv_iconst (v := nI 0) hx hb dX6_compare_97 (by decide +kernel) ?_
              have hxv : x = nI (0) := by
                rcases hxx with ⟨h, e⟩ | ⟨h, e⟩ | ⟨h, e⟩
                · first | exact e | (exfalso; omega)
                · first | exact e | (exfalso; omega)
                · first | exact e | (exfalso; omega)
              rw [hxv] at hret
              exact hret 98 ls dX6_compare_98
            · refine lv_iconst (v := nI 1) hx hb dX6_compare_93 (by decide +kernel) ?_
              refine lv_goto (tgt := 98) hx hb dX6_compare_94 (by decide) ?_
              have hxv : x = nI (1) := by
                rcases hxx with ⟨h, e⟩ | ⟨h, e⟩ | ⟨h, e⟩
                · first | exact e | (exfalso; omega)
                · first | exact e | (exfalso; omega)
                · first | exact e | (exfalso; omega)
              rw [hxv] at hret
              exact hret 98 ls dX6_compare_98
          · refine lv_iconst (v := (-1)) hx hb dX6_compare_79 (by decide +kernel) ?_
            refine lv_goto (tgt := 98) hx hb dX6_compare_80 (by decide) ?_
            have hxv : x = (-1) := by
              rcases hxx with ⟨h, e⟩ | ⟨h, e⟩ | ⟨h, e⟩
              · first | exact e | (exfalso; omega)
              · first | exact e | (exfalso; omega)
              · first | exact e | (exfalso; omega)
            rw [hxv] at hret
            exact hret 98 ls dX6_compare_98
        · refine lv_aload_n hx hb dX6_compare_20 rfl (lv_at hl 0 rfl) ?_
          refine va_get (D := D) (ci := 6) (v := .ref (b 1)) (C := RX6) (T := TX6) (N := 15) hx hb hts hinX6 hown hK hP 0 rfl rfl 0 (by decide) (hts (.fieldLink RX6 7 "TypoSuggesterModel" "tape" "[B") (by decide +kernel)) (fun _ h9 => h9) rfl dX6_compare_21 ?_
          refine lv_iload_n hx hb dX6_compare_24 rfl (lv_at hl 1 rfl) ?_
          refine lv_iload hx hb dX6_compare_25 (lv_at hl 4 rfl) ?_
          refine nz_iadd (a := fr) (b := k) hx hb dX6_compare_27 ?_
          refine nz_baldR (f := mt.1) (k := fr + k) hx hb hK hP 1 0 rfl rfl (by omega) (by decide) dX6_compare_28 ?_
          refine nz_callR (va_runS (As := [.int (mt.1 (fr + k))]) (rest := []) ⟨hx, hb, hml, hown, hts⟩ (mX6_small l D b cs mt ml mr mk (mt.1 (fr + k))) (va_cwS 1 hts gX6_compare_X6_small rfl rfl rfl (by decide +kernel) ⟨Nat.le_of_ble_eq_true rfl, Nat.le_of_ble_eq_true rfl⟩) (nz_preS hK hP) rfl rfl hl.1 rfl (lv_room (Nat.le_of_ble_eq_true rfl)) dX6_compare_29 ⟨Nat.zero_le _, Nat.zero_le _⟩) ?_
          have hlk := sml_low (hlet k c_6)
          refine nz_top (y := nI (lowN (mt.1 (fr + k)))) hlk.1 ?_
          refine lv_aload_n hx hb dX6_compare_32 rfl (lv_at hl 0 rfl) ?_
          refine va_get (D := D) (ci := 6) (v := .ref (b 2)) (C := RX6) (T := TX6) (N := 15) hx hb hts hinX6 hown hK hP 0 rfl rfl 4 (by decide) (hts (.fieldLink RX6 13 "TypoSuggesterModel" "letters" "[B") (by decide +kernel)) (fun _ h9 => h9) rfl dX6_compare_33 ?_
          refine lv_bipush (v := nI 24) hx hb dX6_compare_36 (by decide +kernel) ?_
          refine lv_iload_n hx hb dX6_compare_38 rfl (lv_at hl 3 rfl) ?_
          refine nz_imul (a := 24) (b := ti) hx hb dX6_compare_39 ?_
          refine lv_iload hx hb dX6_compare_40 (lv_at hl 4 rfl) ?_
          refine nz_iadd (a := 24 * ti) (b := k) hx hb dX6_compare_42 ?_
          refine nz_bald (f := ml.1) (k := 24 * ti + k) hx hb hK hP 2 0 rfl rfl (by omega) (by decide) dX6_compare_43 ?_
          refine lv_isub hx hb dX6_compare_44 ?_
          refine lv_istore (lv' := [(5, .int (nI (lowN (mt.1 (fr + k))) - nI (ml.1 (24 * ti + k)))), (0, .ref (b 0)), (1, .int (nI (fr))), (2, .int (nI (ln))), (3, .int (nI (ti))), (4, .int (nI (k)))]) hx hb dX6_compare_45 hl (by decide) rfl (fun ls hl => ?_)
          refine lv_iload hx hb dX6_compare_47 (lv_at hl 0 rfl) ?_
          refine lv_if_eq (tgt := 63) hx hb dX6_compare_49 (by decide) (fun c_49 => ?_) (fun c_49 => ?_)
          · have c_49 := (sub_eq0 (by omega) (by have := hM3 (24 * ti + k); omega)).mp c_49
            have hkr : k < r := by
              rcases Nat.lt_or_ge k r with h | h
              · exact h
              · have h2 : k = r := by omega
                rw [h2] at c_6 c_17 c_49
                exact absurd c_49 (hr3 (by omega))
            refine lv_iinc (v := nI (k + 1)) (lv' := [(4, .int (nI (k + 1))), (5, .int (nI (lowN (mt.1 (fr + k))) - nI (ml.1 (24 * ti + k)))), (0, .ref (b 0)), (1, .int (nI (fr))), (2, .int (nI (ln))), (3, .int (nI (ti)))]) hx hb dX6_compare_63 hl (k := 5) rfl (nz_inc1 _) (by decide) rfl (fun ls hl => ?_)
            refine lv_goto (tgt := 3) hx hb dX6_compare_66 (by decide) ?_
            exact ih (k + 1) (by omega) (by omega) ls (lv_sub hl [2, 3, 4, 5, 0] rfl)
          · have c_49 : lowN (mt.1 (fr + k)) ≠ ml.1 (24 * ti + k) := fun h => c_49 ((sub_eq0 (by omega) (by have := hM3 (24 * ti + k); omega)).mpr h)
            have hkr : k = r := by
              rcases Nat.lt_or_ge k r with h | h
              · exact absurd (hr2 k h) c_49
              · omega
            refine lv_iload hx hb dX6_compare_52 (lv_at hl 0 rfl) ?_
            refine lv_if_ge (tgt := 61) hx hb dX6_compare_54 (by decide) (fun c_54 => ?_) (fun c_54 => ?_)
            · have c_54 := (sub_ge0 (by omega) (by have := hM3 (24 * ti + k); omega)).mp c_54
              subst hkr
              refine lv_iconst (v := nI 1) hx hb dX6_compare_61 (by decide +kernel) ?_
              have hxv : x = nI (1) := by
                rcases hxx with ⟨h, e⟩ | ⟨h, e⟩ | ⟨h, e⟩
                · first | exact e | (exfalso; omega)
                · first | exact e | (exfalso; omega)
                · first | exact e | (exfalso; omega)
              rw [hxv] at hret
              exact hret 62 ls dX6_compare_62
            · have c_54 : lowN (mt.1 (fr + k)) < ml.1 (24 * ti + k) := Nat.lt_of_not_le (fun h => c_54 ((sub_ge0 (by omega) (by have := hM3 (24 * ti + k); omega)).mpr h))
              subst hkr
              refine lv_iconst (v := (-1)) hx hb dX6_compare_57 (by decide +kernel) ?_
              refine lv_goto (tgt := 62) hx hb dX6_compare_58 (by decide) ?_
              have hxv : x = (-1) := by
                rcases hxx with ⟨h, e⟩ | ⟨h, e⟩ | ⟨h, e⟩
                · first | exact e | (exfalso; omega)
                · first | exact e | (exfalso; omega)
                · first | exact e | (exfalso; omega)
              rw [hxv] at hret
              exact hret 62 ls dX6_compare_62
  exact loop (r - 0 + 1) 0 (Nat.zero_le _) (Nat.lt_succ_self _) ls (lv_sub hl [1, 2, 3, 4, 0] rfl)
theorem cmp_eq {f : Nat → Nat} {n : Nat} {g : Nat → Nat} {z : Nat} {x : Int32} (h : CmpIs f n g z x) (e : eqF f n g z) : x = 0 := by
  rcases h with ⟨h, _⟩ | ⟨_, h⟩ | ⟨h, _⟩
  · exact absurd e (ltF_eqF h)
  · exact h
  · exact absurd ⟨e.1.symm, fun j hj => (e.2 j (by have := e.1; omega)).symm⟩ (ltF_eqF h)
theorem cmp_0 {f : Nat → Nat} {n : Nat} {g : Nat → Nat} {z : Nat} {x : Int32} (h : CmpIs f n g z x) (e : x = 0) : eqF f n g z := by
  rcases h with ⟨_, h⟩ | ⟨h, _⟩ | ⟨_, h⟩
  · rw [e] at h
    exact absurd h (by decide +kernel)
  · exact h
  · rw [e] at h
    exact absurd h (by decide +kernel)
theorem cmp_neg {f : Nat → Nat} {n : Nat} {g : Nat → Nat} {z : Nat} {x : Int32} (h : CmpIs f n g z x) (e : ¬ 0 ≤ x) : ltF f n g z := by
  rcases h with ⟨h, _⟩ | ⟨_, h⟩ | ⟨_, h⟩
  · exact h
  · rw [h] at e
    exact absurd (by decide +kernel) e
  · rw [h] at e
    exact absurd (by decide +kernel) e
theorem cmp_nn {f : Nat → Nat} {n : Nat} {g : Nat → Nat} {z : Nat} {x : Int32} (h : CmpIs f n g z x) (e : 0 ≤ x) : ¬ ltF f n g z := by
  rcases h with ⟨_, h⟩ | ⟨h, _⟩ | ⟨h, _⟩
  · rw [h] at e
    exact absurd e (by decide +kernel)
  · exact fun z => ltF_eqF z h
  · exact ltF_asym h
abbrev rmX6_find : Room := { frames := 2, cells := 0, slots := 0, locals := 45 }
set_option maxHeartbeats 4000000 in
set_option maxRecDepth 100000 in
theorem mX6_find (l : Launch) (D : va_G) (b : Nat → Nat) (cs : Nat → ClassId) (mt : (Nat → Int32) × Nat) (ml : (Nat → Nat) × (Nat → Nat) × (Nat → Nat) × Nat × Nat) (mr : (Nat → Nat) × (Nat → Nat) × (Nat → Nat) × (Nat → Nat) × Nat) (mk : (Nat → Bool) × (Nat → Nat) × (Nat → Nat)) (fr : Nat) (ln : Nat) (b1 : Bool) (r : Nat) (hM : MlB ml) (hfl : fr + ln ≤ 400) (hln : ln ≤ 24) (hlet : ∀ j, j < ln → lowN (mt.1 (fr + j)) ≠ 0) (hf1 : b1 = true → r < ml.2.2.2.1 ∧ eqF (fun j => lowN (mt.1 (fr + j))) ln (TM ml r) (ZM ml r)) (hf2 : ∀ i, (b1 = true → i < r) → i < ml.2.2.2.1 → ¬ eqF (fun j => lowN (mt.1 (fr + j))) ln (TM ml i) (ZM ml i)) : Met l yX6_find wsX6_find rmX6_find (wdP D vwCl (wM b cs mt ml mr mk) (tyX cs) [.ref (b 0), .int (nI (fr)), .int (nI (ln))]) (rdQ (.int (bif b1 then nI r else (-1)))) 0 0 (fun _ => False) := by
  obtain ⟨hM1, hM2, hM3, hM4, hM5⟩ := id hM
  refine nz_metRi (by decide) rfl (Nat.le_of_ble_eq_true rfl) rfl ?_
  intro p e s m args below meth c Q hx hb hml hts hown hP hK hret ls hl
  have hl : lv_has ls 4 [(0, .ref (b 0)), (1, .int (nI (fr))), (2, .int (nI (ln)))] := hl
  have hown : s.vm.findClass RX6 = some m.cls := hown
  have hinX6 : ∀ w ∈ u_ws RX6 TX6 15, w ∈ wsX6_find := by decide +kernel
  refine lv_iconst (v := nI 0) hx hb dX6_find_0 (by decide +kernel) ?_
  refine lv_istore_n (lv' := [(3, .int (nI (0))), (0, .ref (b 0)), (1, .int (nI (fr))), (2, .int (nI (ln)))]) hx hb dX6_find_1 rfl hl (by decide) rfl (fun ls hl => ?_)
  have loop : ∀ (fuel : Nat) (k : Nat), (k ≤ ml.2.2.2.1) → (b1 = true → k ≤ r) → ml.2.2.2.1 - k < fuel → ∀ ls : Array Slot, lv_has ls 4 [(0, .ref (b 0)), (1, .int (nI (fr))), (2, .int (nI (ln))), (3, .int (nI (k)))] → W p l e rmX6_find s m args below meth c s.heap [] 0 0 Q (F0 m 2 ls []) := by
    intro fuel
    induction fuel with
    | zero => intro k hk hkr hf; exact absurd hf (Nat.not_lt_zero _)
    | succ fuel ih =>
      intro k hk hkr hf ls hl
      refine lv_iload_n hx hb dX6_find_2 rfl (lv_at hl 3 rfl) ?_
      refine lv_aload_n hx hb dX6_find_3 rfl (lv_at hl 0 rfl) ?_
      refine va_get (D := D) (ci := 6) (v := .int (nI (ml.2.2.2.1))) (C := RX6) (T := TX6) (N := 15) hx hb hts hinX6 hown hK hP 0 rfl rfl 2 (by decide) (hts (.fieldLink RX6 46 "TypoSuggesterModel" "count" "I") (by decide +kernel)) (fun _ h9 => h9) rfl dX6_find_4 ?_
      refine nz_cge (a := k) (b := ml.2.2.2.1) (tgt := 28) hx hb dX6_find_7 (by decide) (by omega) (by omega) (fun c_7 => ?_) (fun c_7 => ?_)
      · refine lv_iconst (v := (-1)) hx hb dX6_find_28 (by decide +kernel) ?_
        have hbv : b1 = false := by cases b1 with | false => rfl | true => have h1 := (hf1 rfl).1; have h2 := hkr rfl; omega
        subst hbv
        exact hret 29 ls dX6_find_29
      · refine lv_aload_n hx hb dX6_find_10 rfl (lv_at hl 0 rfl) ?_
        refine lv_iload_n hx hb dX6_find_11 rfl (lv_at hl 1 rfl) ?_
        refine lv_iload_n hx hb dX6_find_12 rfl (lv_at hl 2 rfl) ?_
        refine lv_iload_n hx hb dX6_find_13 rfl (lv_at hl 3 rfl) ?_
        obtain ⟨x, hcx⟩ := cmp_ex (fun j => lowN (mt.1 (fr + j))) ln (TM ml k) (ZM ml k)
        refine nz_callR (va_runV (As := [.int (nI (fr)), .int (nI (ln)), .int (nI (k))]) (rest := []) ⟨hx, hb, hml, hown, hts⟩ (mX6_compare l D b cs mt ml mr mk fr ln k x hM (by omega) (by omega) hlet (by omega) hcx) (cwV 3 hts gX6_find_X6_compare rfl rfl rfl (by decide +kernel) ⟨Nat.le_of_ble_eq_true rfl, Nat.le_of_ble_eq_true rfl⟩) (nz_preV (ci := 6) (q0 := 0) hK hP rfl rfl) rfl rfl hl.1 rfl (lv_room (Nat.le_of_ble_eq_true rfl)) dX6_find_14 ⟨Nat.zero_le _, Nat.zero_le _⟩) ?_
        refine lv_if_ne (tgt := 22) hx hb dX6_find_17 (by decide) (fun c_17 => ?_) (fun c_17 => ?_)
        · refine lv_iinc (v := nI (k + 1)) (lv' := [(3, .int (nI (k + 1))), (0, .ref (b 0)), (1, .int (nI (fr))), (2, .int (nI (ln)))]) hx hb dX6_find_22 hl (k := 3) rfl (nz_inc1 _) (by decide) rfl (fun ls hl => ?_)
          refine lv_goto (tgt := 2) hx hb dX6_find_25 (by decide) ?_
          exact ih (k + 1) (by omega) (fun hb => by rcases Nat.lt_or_ge k r with h | h; exact h; have e : k = r := (by have := hkr hb; omega); rw [e] at hcx; exact absurd (hf1 hb).2 (fun z => c_17 (cmp_eq hcx z))) (by omega) ls (lv_sub hl [1, 2, 3, 0] rfl)
        · refine lv_iload_n hx hb dX6_find_20 rfl (lv_at hl 3 rfl) ?_
          have hek := cmp_0 hcx c_17
          have hbv : b1 = true := by cases b1 with | true => rfl | false => exact absurd hek (hf2 k (fun h => by cases h) c_7)
          subst hbv
          have hkk : k = r := by rcases Nat.lt_or_ge k r with h | h; exact absurd hek (hf2 k (fun _ => h) c_7); have := hkr rfl; omega
          rw [hkk]
          exact hret 21 ls dX6_find_21
  exact loop (ml.2.2.2.1 - 0 + 1) 0 (Nat.zero_le _) (fun _ => Nat.zero_le _) (Nat.lt_succ_self _) ls (lv_sub hl [1, 2, 3, 0] rfl)
abbrev rmX6_move : Room := { frames := 0, cells := 0, slots := 0, locals := 0 }
set_option maxHeartbeats 4000000 in
set_option maxRecDepth 100000 in
theorem mX6_move (l : Launch) (D : va_G) (b : Nat → Nat) (cs : Nat → ClassId) (mt : (Nat → Int32) × Nat) (ml : (Nat → Nat) × (Nat → Nat) × (Nat → Nat) × Nat × Nat) (mr : (Nat → Nat) × (Nat → Nat) × (Nat → Nat) × (Nat → Nat) × Nat) (mk : (Nat → Bool) × (Nat → Nat) × (Nat → Nat)) (fr : Nat) (tt : Nat) (hb2 : wInjM b) (hM : MlB ml) (hfr : fr ≤ 600) (htt : tt ≤ 600) (hne : fr ≠ tt) : Met l yX6_move wsX6_move rmX6_move (wdP D vwCl (wM b cs mt ml mr mk) (tyX cs) [.ref (b 0), .int (nI (fr)), .int (nI (tt))]) (wrQ none (fun H => va_P D vwCl (wM b cs mt (va_cpy ml.1 ml.1 (24 * fr) (24 * tt) 24, va_up ml.2.1 tt (ml.2.1 fr), va_up ml.2.2.1 tt (ml.2.2.1 fr), ml.2.2.2.1, ml.2.2.2.2) mr mk) H) (inM b)) 0 0 (inM b) := by
  obtain ⟨hM1, hM2, hM3, hM4, hM5⟩ := id hM
  refine nz_metWv (by decide) rfl (Nat.le_of_ble_eq_true rfl) ?_
  intro p e s m args below meth c Q hx hb hml hts hown hP hK hret ls hl
  have hl : lv_has ls 4 [(0, .ref (b 0)), (1, .int (nI (fr))), (2, .int (nI (tt)))] := hl
  have hown : s.vm.findClass RX6 = some m.cls := hown
  have hinX6 : ∀ w ∈ u_ws RX6 TX6 15, w ∈ wsX6_move := by decide +kernel
  have hS : va_S (inM b) s.heap s.heap [] := va_S.rf
  obtain ⟨H, hH⟩ : ∃ H, H = s.heap := ⟨_, rfl⟩
  obtain ⟨locs, hlocs⟩ : ∃ locs : List Loc, locs = [] := ⟨_, rfl⟩
  have hP : va_P D vwCl (wM b cs mt ml mr mk) H := hH ▸ hP
  have hS : va_S (inM b) s.heap H locs := by rw [hH, hlocs]; exact va_S.rf
  suffices hgo : W p l e rmX6_move s m args below meth c H locs 0 0 Q (F0 m 0 ls []) by rw [hH, hlocs] at hgo; exact hgo
  clear hH hlocs
  refine lv_iconst (v := nI 0) hx hb dX6_move_0 (by decide +kernel) ?_
  refine lv_istore_n (lv' := [(3, .int (nI (0))), (0, .ref (b 0)), (1, .int (nI (fr))), (2, .int (nI (tt)))]) hx hb dX6_move_1 rfl hl (by decide) rfl (fun ls hl => ?_)
  have hP : va_P D vwCl (wM b cs mt (va_cpy ml.1 ml.1 (24 * fr) (24 * tt) 0, ml.2.1, ml.2.2.1, ml.2.2.2.1, ml.2.2.2.2) mr mk) H := by rw [cpy_0]; exact hP
  have loop : ∀ (fuel : Nat) (k : Nat), (k ≤ 24) → 24 - k < fuel → ∀ (H : Heap) (locs : List Loc), va_P D vwCl (wM b cs mt (va_cpy ml.1 ml.1 (24 * fr) (24 * tt) k, ml.2.1, ml.2.2.1, ml.2.2.2.1, ml.2.2.2.2) mr mk) H → va_S (inM b) s.heap H locs → ∀ ls : Array Slot, lv_has ls 4 [(0, .ref (b 0)), (1, .int (nI (fr))), (2, .int (nI (tt))), (3, .int (nI (k)))] → W p l e rmX6_move s m args below meth c H locs 0 0 Q (F0 m 2 ls []) := by
    intro fuel
    induction fuel with
    | zero => intro k hk hf; exact absurd hf (Nat.not_lt_zero _)
    | succ fuel ih =>
      intro k hk hf H locs hP hS ls hl
      refine lv_iload_n hx hb dX6_move_2 rfl (lv_at hl 3 rfl) ?_
      refine lv_bipush (v := nI 24) hx hb dX6_move_3 (by decide +kernel) ?_
      refine nz_cge (a := k) (b := 24) (tgt := 36) hx hb dX6_move_5 (by decide) (by omega) (by omega) (fun c_5 => ?_) (fun c_5 => ?_)
      · rw [show k = 24 by omega] at hP
        refine lv_aload_n hx hb dX6_move_36 rfl (lv_at hl 0 rfl) ?_
        refine va_get (D := D) (ci := 6) (v := .ref (b 3)) (C := RX6) (T := TX6) (N := 15) hx hb hts hinX6 hown hK hP 0 rfl rfl 5 (by decide) (hts (.fieldLink RX6 16 "TypoSuggesterModel" "sizes" "[I") (by decide +kernel)) (fun _ h9 => h9) rfl dX6_move_37 ?_
        refine lv_iload_n hx hb dX6_move_40 rfl (lv_at hl 2 rfl) ?_
        refine lv_aload_n hx hb dX6_move_41 rfl (lv_at hl 0 rfl) ?_
        refine va_get (D := D) (ci := 6) (v := .ref (b 3)) (C := RX6) (T := TX6) (N := 15) hx hb hts hinX6 hown hK hP 0 rfl rfl 5 (by decide) (hts (.fieldLink RX6 16 "TypoSuggesterModel" "sizes" "[I") (by decide +kernel)) (fun _ h9 => h9) rfl dX6_move_42 ?_
        refine lv_iload_n hx hb dX6_move_45 rfl (lv_at hl 1 rfl) ?_
        refine nz_iald (f := ml.2.1) (k := fr) hx hb hK hP 3 1 rfl rfl (by omega) (by decide) dX6_move_46 ?_
        refine nz_iast (f := ml.2.1) (k := tt) (v := ml.2.1 fr) (ws' := wM b cs mt (va_cpy ml.1 ml.1 (24 * fr) (24 * tt) 24, va_up ml.2.1 tt (ml.2.1 fr), ml.2.2.1, ml.2.2.2.1, ml.2.2.2.2) mr mk) hx hb hK hP (wM_D hb2) hS 3 1 rfl rfl (by omega) (by decide) dX6_move_47 rfl (fun H locs hP hS => ?_)
        refine lv_aload_n hx hb dX6_move_48 rfl (lv_at hl 0 rfl) ?_
        refine va_get (D := D) (ci := 6) (v := .ref (b 4)) (C := RX6) (T := TX6) (N := 15) hx hb hts hinX6 hown hK hP 0 rfl rfl 6 (by decide) (hts (.fieldLink RX6 20 "TypoSuggesterModel" "weights" "[J") (by decide +kernel)) (fun _ h9 => h9) rfl dX6_move_49 ?_
        refine lv_iload_n hx hb dX6_move_52 rfl (lv_at hl 2 rfl) ?_
        refine lv_aload_n hx hb dX6_move_53 rfl (lv_at hl 0 rfl) ?_
        refine va_get (D := D) (ci := 6) (v := .ref (b 4)) (C := RX6) (T := TX6) (N := 15) hx hb hts hinX6 hown hK hP 0 rfl rfl 6 (by decide) (hts (.fieldLink RX6 20 "TypoSuggesterModel" "weights" "[J") (by decide +kernel)) (fun _ h9 => h9) rfl dX6_move_54 ?_
        refine lv_iload_n hx hb dX6_move_57 rfl (lv_at hl 1 rfl) ?_
        refine nz_lald (f := ml.2.2.1) (k := fr) hx hb hK hP 4 2 rfl rfl (by omega) (by decide) dX6_move_58 ?_
        refine nz_last (f := ml.2.2.1) (k := tt) (v := ml.2.2.1 fr) (ws' := wM b cs mt (va_cpy ml.1 ml.1 (24 * fr) (24 * tt) 24, va_up ml.2.1 tt (ml.2.1 fr), va_up ml.2.2.1 tt (ml.2.2.1 fr), ml.2.2.2.1, ml.2.2.2.2) mr mk) hx hb hK hP (wM_D hb2) hS 4 2 rfl rfl (by omega) (by decide) dX6_move_59 rfl (fun H locs hP hS => ?_)
        exact hret 60 ls H locs dX6_move_60 hP hS
      · refine lv_aload_n hx hb dX6_move_8 rfl (lv_at hl 0 rfl) ?_
        refine va_get (D := D) (ci := 6) (v := .ref (b 2)) (C := RX6) (T := TX6) (N := 15) hx hb hts hinX6 hown hK hP 0 rfl rfl 4 (by decide) (hts (.fieldLink RX6 13 "TypoSuggesterModel" "letters" "[B") (by decide +kernel)) (fun _ h9 => h9) rfl dX6_move_9 ?_
        refine lv_bipush (v := nI 24) hx hb dX6_move_12 (by decide +kernel) ?_
        refine lv_iload_n hx hb dX6_move_14 rfl (lv_at hl 2 rfl) ?_
        refine nz_imul (a := 24) (b := tt) hx hb dX6_move_15 ?_
        refine lv_iload_n hx hb dX6_move_16 rfl (lv_at hl 3 rfl) ?_
        refine nz_iadd (a := 24 * tt) (b := k) hx hb dX6_move_17 ?_
        refine lv_aload_n hx hb dX6_move_18 rfl (lv_at hl 0 rfl) ?_
        refine va_get (D := D) (ci := 6) (v := .ref (b 2)) (C := RX6) (T := TX6) (N := 15) hx hb hts hinX6 hown hK hP 0 rfl rfl 4 (by decide) (hts (.fieldLink RX6 13 "TypoSuggesterModel" "letters" "[B") (by decide +kernel)) (fun _ h9 => h9) rfl dX6_move_19 ?_
        refine lv_bipush (v := nI 24) hx hb dX6_move_22 (by decide +kernel) ?_
        refine lv_iload_n hx hb dX6_move_24 rfl (lv_at hl 1 rfl) ?_
        refine nz_imul (a := 24) (b := fr) hx hb dX6_move_25 ?_
        refine lv_iload_n hx hb dX6_move_26 rfl (lv_at hl 3 rfl) ?_
        refine nz_iadd (a := 24 * fr) (b := k) hx hb dX6_move_27 ?_
        refine nz_bald (f := va_cpy ml.1 ml.1 (24 * fr) (24 * tt) k) (k := 24 * fr + k) hx hb hK hP 2 0 rfl rfl (by omega) (by decide) dX6_move_28 ?_
        refine nz_bast (f := va_cpy ml.1 ml.1 (24 * fr) (24 * tt) k) (k := 24 * tt + k) (v := (va_cpy ml.1 ml.1 (24 * fr) (24 * tt) k) (24 * fr + k)) (ws' := wM b cs mt (va_up (va_cpy ml.1 ml.1 (24 * fr) (24 * tt) k) (24 * tt + k) ((va_cpy ml.1 ml.1 (24 * fr) (24 * tt) k) (24 * fr + k)), ml.2.1, ml.2.2.1, ml.2.2.2.1, ml.2.2.2.2) mr mk) hx hb hK hP (wM_D hb2) hS 2 0 rfl rfl (by omega) (by decide) (cpy_lt hM3 hM3 _) dX6_move_29 rfl (fun H locs hP hS => ?_)
        have e_1 : va_up (va_cpy ml.1 ml.1 (24 * fr) (24 * tt) k) (24 * tt + k) ((va_cpy ml.1 ml.1 (24 * fr) (24 * tt) k) (24 * fr + k)) = va_cpy ml.1 ml.1 (24 * fr) (24 * tt) (k + 1) := cpy_step (pk_cpy_out (by omega))
        rw [e_1] at hP
        refine lv_iinc (v := nI (k + 1)) (lv' := [(3, .int (nI (k + 1))), (0, .ref (b 0)), (1, .int (nI (fr))), (2, .int (nI (tt)))]) hx hb dX6_move_30 hl (k := 3) rfl (nz_inc1 _) (by decide) rfl (fun ls hl => ?_)
        refine lv_goto (tgt := 2) hx hb dX6_move_33 (by decide) ?_
        exact ih (k + 1) (by omega) (by omega) H locs hP hS ls (lv_sub hl [1, 2, 3, 0] rfl)
  exact loop (24 - 0 + 1) 0 (Nat.zero_le _) (Nat.lt_succ_self _) H locs hP hS ls (lv_sub hl [1, 2, 3, 0] rfl)
abbrev rmX6_taken : Room := { frames := 1, cells := 0, slots := 0, locals := 20 }
set_option maxHeartbeats 4000000 in
set_option maxRecDepth 100000 in
theorem mX6_taken (l : Launch) (D : va_G) (b : Nat → Nat) (cs : Nat → ClassId) (mt : (Nat → Int32) × Nat) (ml : (Nat → Nat) × (Nat → Nat) × (Nat → Nat) × Nat × Nat) (mr : (Nat → Nat) × (Nat → Nat) × (Nat → Nat) × (Nat → Nat) × Nat) (mk : (Nat → Bool) × (Nat → Nat) × (Nat → Nat)) (lst : Nat) (bb : Bool) (hb2 : wInjM b) (hT : mt.2 ≤ 400) (hls : lst ≤ 1) (hbb : bb = true ↔ (goodT mt ∧ lst ≤ mt.2)) : Met l yX6_taken wsX6_taken rmX6_taken (wdP D vwCl (wM b cs mt ml mr mk) (tyX cs) [.ref (b 0), .int (nI (lst))]) (wrQ (some (.int (bif bb then nI mt.2 else (-1)))) (fun H => va_P D vwCl (wM b cs (mt.1, 0) ml mr mk) H) (inM b)) 0 0 (inM b) := by
  refine nz_metWi (by decide) rfl (Nat.le_of_ble_eq_true rfl) rfl ?_
  intro p e s m args below meth c Q hx hb hml hts hown hP hK hret ls hl
  have hl : lv_has ls 5 [(0, .ref (b 0)), (1, .int (nI (lst)))] := hl
  have hown : s.vm.findClass RX6 = some m.cls := hown
  have hinX6 : ∀ w ∈ u_ws RX6 TX6 15, w ∈ wsX6_taken := by decide +kernel
  have hS : va_S (inM b) s.heap s.heap [] := va_S.rf
  obtain ⟨H, hH⟩ : ∃ H, H = s.heap := ⟨_, rfl⟩
  obtain ⟨locs, hlocs⟩ : ∃ locs : List Loc, locs = [] := ⟨_, rfl⟩
  have hP : va_P D vwCl (wM b cs mt ml mr mk) H := hH ▸ hP
  have hS : va_S (inM b) s.heap H locs := by rw [hH, hlocs]; exact va_S.rf
  suffices hgo : W p l e rmX6_taken s m args below meth c H locs 0 0 Q (F0 m 0 ls []) by rw [hH, hlocs] at hgo; exact hgo
  clear hH hlocs
  refine lv_aload_n hx hb dX6_taken_0 rfl (lv_at hl 0 rfl) ?_
  refine va_get (D := D) (ci := 6) (v := .int (nI (mt.2))) (C := RX6) (T := TX6) (N := 15) hx hb hts hinX6 hown hK hP 0 rfl rfl 1 (by decide) (hts (.fieldLink RX6 50 "TypoSuggesterModel" "tapeSize" "I") (by decide +kernel)) (fun _ h9 => h9) rfl dX6_taken_1 ?_
  refine lv_istore_n (lv' := [(2, .int (nI (mt.2))), (0, .ref (b 0)), (1, .int (nI (lst)))]) hx hb dX6_taken_4 rfl hl (by decide) rfl (fun ls hl => ?_)
  refine lv_aload_n hx hb dX6_taken_5 rfl (lv_at hl 1 rfl) ?_
  refine lv_iconst (v := nI 0) hx hb dX6_taken_6 (by decide +kernel) ?_
  refine nz_put (D := D) (ci := 6) (v := .int (nI (0))) (ty := .int) (ws' := wM b cs (mt.1, 0) ml mr mk) (C := RX6) (T := TX6) (N := 15) hx hb hts hinX6 tyX6 tyX6_ok nmX6 hown hK hP (wM_D hb2) hS 0 rfl rfl 1 (by decide) (hts (.fieldLink RX6 50 "TypoSuggesterModel" "tapeSize" "I") (by decide +kernel)) (fun _ h9 => h9) rfl (by decide +kernel) rfl rfl (Nat.le_of_ble_eq_true rfl) dX6_taken_7 rfl (fun H locs hP hS => ?_)
  refine lv_iload_n hx hb dX6_taken_10 rfl (lv_at hl 0 rfl) ?_
  refine lv_iload_n hx hb dX6_taken_11 rfl (lv_at hl 2 rfl) ?_
  refine nz_clt (a := mt.2) (b := lst) (tgt := 25) hx hb dX6_taken_12 (by decide) (by omega) (by omega) (fun c_12 => ?_) (fun c_12 => ?_)
  · refine lv_iconst (v := nI 0) hx hb dX6_taken_25 (by decide +kernel) ?_
    refine lv_istore_n (lv' := [(3, .int (nI (0))), (2, .int (nI (mt.2))), (0, .ref (b 0)), (1, .int (nI (lst)))]) hx hb dX6_taken_26 rfl hl (by decide) rfl (fun ls hl => ?_)
    have e_1 : (nI (0)) = (bI (false)) := bI_f
    have hl : lv_has ls 5 [(3, .int (bI (false))), (2, .int (nI (mt.2))), (0, .ref (b 0)), (1, .int (nI (lst)))] := by rw [← e_1]; exact hl
    refine lv_iconst (v := nI 0) hx hb dX6_taken_27 (by decide +kernel) ?_
    refine lv_istore (lv' := [(4, .int (nI (0))), (3, .int (bI (false))), (2, .int (nI (mt.2))), (0, .ref (b 0)), (1, .int (nI (lst)))]) hx hb dX6_taken_28 hl (by decide) rfl (fun ls hl => ?_)
    have loop : ∀ (fuel : Nat) (k : Nat) (g : Bool), (k ≤ mt.2) → (g = true ↔ (lst ≤ mt.2 ∧ mt.2 ≤ 24 ∧ ∀ j, j < k → smB (mt.1 j) = true)) → mt.2 - k < fuel → ∀ (H : Heap) (locs : List Loc), va_P D vwCl (wM b cs (mt.1, 0) ml mr mk) H → va_S (inM b) s.heap H locs → ∀ ls : Array Slot, lv_has ls 5 [(0, .ref (b 0)), (2, .int (nI (mt.2))), (3, .int (bI (g))), (4, .int (nI (k)))] → W p l e rmX6_taken s m args below meth c H locs 0 0 Q (F0 m 30 ls []) := by
      intro fuel
      induction fuel with
      | zero => intro k g hk hg hf; exact absurd hf (Nat.not_lt_zero _)
      | succ fuel ih =>
        intro k g hk hg hf H locs hP hS ls hl
        refine lv_iload hx hb dX6_taken_30 (lv_at hl 3 rfl) ?_
        refine lv_iload_n hx hb dX6_taken_32 rfl (lv_at hl 1 rfl) ?_
        refine nz_cge (a := k) (b := mt.2) (tgt := 57) hx hb dX6_taken_33 (by decide) (by omega) (by omega) (fun c_33 => ?_) (fun c_33 => ?_)
        · refine lv_iload_n hx hb dX6_taken_57 rfl (lv_at hl 2 rfl) ?_
          refine nz_ifeqB (tgt := 65) hx hb dX6_taken_58 (by decide) (fun c_58 => ?_) (fun c_58 => ?_)
          · refine lv_iconst (v := (-1)) hx hb dX6_taken_65 (by decide +kernel) ?_
            have hbg : bb = g := by
              have h9 : bb = true ↔ g = true := by
                rw [hbb, hg]
                constructor
                · rintro ⟨h1, h2⟩
                  exact ⟨h2, h1.1, fun j hj => h1.2 j (by omega)⟩
                · rintro ⟨h1, h2, h3⟩
                  refine ⟨⟨h2, fun j hj => ?_⟩, h1⟩
                  have hgt := hg.mpr ⟨h1, h2, h3⟩
                  first | exact absurd (c_37.symm.trans hgt) (by decide) | exact h3 j (by omega)
              cases bb with
              | true => exact (h9.mp rfl).symm
              | false => cases hg8 : g with
                | false => rfl
                | true => exact absurd (h9.mpr hg8) (by decide)
            rw [hbg, c_58] at hret
            exact hret 66 ls H locs dX6_taken_66 hP hS
          · refine lv_iload_n hx hb dX6_taken_61 rfl (lv_at hl 1 rfl) ?_
            refine lv_goto (tgt := 66) hx hb dX6_taken_62 (by decide) ?_
            have hbg : bb = g := by
              have h9 : bb = true ↔ g = true := by
                rw [hbb, hg]
                constructor
                · rintro ⟨h1, h2⟩
                  exact ⟨h2, h1.1, fun j hj => h1.2 j (by omega)⟩
                · rintro ⟨h1, h2, h3⟩
                  refine ⟨⟨h2, fun j hj => ?_⟩, h1⟩
                  have hgt := hg.mpr ⟨h1, h2, h3⟩
                  first | exact absurd (c_37.symm.trans hgt) (by decide) | exact h3 j (by omega)
              cases bb with
              | true => exact (h9.mp rfl).symm
              | false => cases hg8 : g with
                | false => rfl
                | true => exact absurd (h9.mpr hg8) (by decide)
            rw [hbg, c_58] at hret
            exact hret 66 ls H locs dX6_taken_66 hP hS
        · refine lv_iload_n hx hb dX6_taken_36 rfl (lv_at hl 2 rfl) ?_
          refine nz_ifeqB (tgt := 57) hx hb dX6_taken_37 (by decide) (fun c_37 => ?_) (fun c_37 => ?_)
          · refine lv_iload_n hx hb dX6_taken_57 rfl (lv_at hl 2 rfl) ?_
            refine nz_ifeqB (tgt := 65) hx hb dX6_taken_58 (by decide) (fun c_58 => ?_) (fun c_58 => ?_)
            · refine lv_iconst (v := (-1)) hx hb dX6_taken_65 (by decide +kernel) ?_
              have hbg : bb = g := by
                have h9 : bb = true ↔ g = true := by
                  rw [hbb, hg]
                  constructor
                  · rintro ⟨h1, h2⟩
                    exact ⟨h2, h1.1, fun j hj => h1.2 j (by omega)⟩
                  · rintro ⟨h1, h2, h3⟩
                    refine ⟨⟨h2, fun j hj => ?_⟩, h1⟩
                    have hgt := hg.mpr ⟨h1, h2, h3⟩
                    first | exact absurd (c_37.symm.trans hgt) (by decide) | exact h3 j (by omega)
                cases bb with
                | true => exact (h9.mp rfl).symm
                | false => cases hg8 : g with
                  | false => rfl
                  | true => exact absurd (h9.mpr hg8) (by decide)
              rw [hbg, c_58] at hret
              exact hret 66 ls H locs dX6_taken_66 hP hS
            · refine lv_iload_n hx hb dX6_taken_61 rfl (lv_at hl 1 rfl) ?_
              refine lv_goto (tgt := 66) hx hb dX6_taken_62 (by decide) ?_
              have hbg : bb = g := by
                have h9 : bb = true ↔ g = true := by
                  rw [hbb, hg]
                  constructor
                  · rintro ⟨h1, h2⟩
                    exact ⟨h2, h1.1, fun j hj => h1.2 j (by omega)⟩
                  · rintro ⟨h1, h2, h3⟩
                    refine ⟨⟨h2, fun j hj => ?_⟩, h1⟩
                    have hgt := hg.mpr ⟨h1, h2, h3⟩
                    first | exact absurd (c_37.symm.trans hgt) (by decide) | exact h3 j (by omega)
                cases bb with
                | true => exact (h9.mp rfl).symm
                | false => cases hg8 : g with
                  | false => rfl
                  | true => exact absurd (h9.mpr hg8) (by decide)
              rw [hbg, c_58] at hret
              exact hret 66 ls H locs dX6_taken_66 hP hS
          · refine lv_aload_n hx hb dX6_taken_40 rfl (lv_at hl 0 rfl) ?_
            refine va_get (D := D) (ci := 6) (v := .ref (b 1)) (C := RX6) (T := TX6) (N := 15) hx hb hts hinX6 hown hK hP 0 rfl rfl 0 (by decide) (hts (.fieldLink RX6 7 "TypoSuggesterModel" "tape" "[B") (by decide +kernel)) (fun _ h9 => h9) rfl dX6_taken_41 ?_
            refine lv_iload hx hb dX6_taken_44 (lv_at hl 3 rfl) ?_
            refine nz_baldR (f := mt.1) (k := k) hx hb hK hP 1 0 rfl rfl (by omega) (by decide) dX6_taken_46 ?_
            refine nz_callR (va_runS (As := [.int (mt.1 k)]) (rest := []) ⟨hx, hb, hml, hown, hts⟩ (mX6_isSmall l D b cs (mt.1, 0) ml mr mk (mt.1 k)) (va_cwS 1 hts gX6_taken_X6_isSmall rfl rfl rfl (by decide +kernel) ⟨Nat.le_of_ble_eq_true rfl, Nat.le_of_ble_eq_true rfl⟩) (nz_preS hK hP) rfl rfl hl.1 rfl (lv_room (Nat.le_of_ble_eq_true rfl)) dX6_taken_47 ⟨Nat.zero_le _, Nat.zero_le _⟩) ?_
            refine lv_istore_n (lv' := [(3, .int (bI (smB (mt.1 k)))), (0, .ref (b 0)), (2, .int (nI (mt.2))), (4, .int (nI (k)))]) hx hb dX6_taken_50 rfl hl (by decide) rfl (fun ls hl => ?_)
            refine lv_iinc (v := nI (k + 1)) (lv' := [(4, .int (nI (k + 1))), (3, .int (bI (smB (mt.1 k)))), (0, .ref (b 0)), (2, .int (nI (mt.2)))]) hx hb dX6_taken_51 hl (k := 3) rfl (nz_inc1 _) (by decide) rfl (fun ls hl => ?_)
            refine lv_goto (tgt := 30) hx hb dX6_taken_54 (by decide) ?_
            exact ih (k + 1) (smB (mt.1 k)) (by omega) ⟨fun h => ⟨(hg.mp c_37).1, (hg.mp c_37).2.1, lt_s (hg.mp c_37).2.2 h⟩, fun h => h.2.2 k (Nat.lt_succ_self _)⟩ (by omega) H locs hP hS ls (lv_sub hl [2, 3, 1, 0] rfl)
    exact loop (mt.2 - 0 + 1) 0 false (Nat.zero_le _) (⟨(fun h => by cases h), fun h => by have h1 := h.1; have h2 := h.2.1; omega⟩) (Nat.lt_succ_self _) H locs hP hS ls (lv_sub hl [3, 2, 1, 0] rfl)
  · refine lv_iload_n hx hb dX6_taken_15 rfl (lv_at hl 0 rfl) ?_
    refine lv_bipush (v := nI 24) hx hb dX6_taken_16 (by decide +kernel) ?_
    refine nz_cgt (a := mt.2) (b := 24) (tgt := 25) hx hb dX6_taken_18 (by decide) (by omega) (by omega) (fun c_18 => ?_) (fun c_18 => ?_)
    · refine lv_iconst (v := nI 0) hx hb dX6_taken_25 (by decide +kernel) ?_
      refine lv_istore_n (lv' := [(3, .int (nI (0))), (2, .int (nI (mt.2))), (0, .ref (b 0)), (1, .int (nI (lst)))]) hx hb dX6_taken_26 rfl hl (by decide) rfl (fun ls hl => ?_)
      have e_2 : (nI (0)) = (bI (false)) := bI_f
      have hl : lv_has ls 5 [(3, .int (bI (false))), (2, .int (nI (mt.2))), (0, .ref (b 0)), (1, .int (nI (lst)))] := by rw [← e_2]; exact hl
      refine lv_iconst (v := nI 0) hx hb dX6_taken_27 (by decide +kernel) ?_
      refine lv_istore (lv' := [(4, .int (nI (0))), (3, .int (bI (false))), (2, .int (nI (mt.2))), (0, .ref (b 0)), (1, .int (nI (lst)))]) hx hb dX6_taken_28 hl (by decide) rfl (fun ls hl => ?_)
      have loop : ∀ (fuel : Nat) (k : Nat) (g : Bool), (k ≤ mt.2) → (g = true ↔ (lst ≤ mt.2 ∧ mt.2 ≤ 24 ∧ ∀ j, j < k → smB (mt.1 j) = true)) → mt.2 - k < fuel → ∀ (H : Heap) (locs : List Loc), va_P D vwCl (wM b cs (mt.1, 0) ml mr mk) H → va_S (inM b) s.heap H locs → ∀ ls : Array Slot, lv_has ls 5 [(0, .ref (b 0)), (2, .int (nI (mt.2))), (3, .int (bI (g))), (4, .int (nI (k)))] → W p l e rmX6_taken s m args below meth c H locs 0 0 Q (F0 m 30 ls []) := by
        intro fuel
        induction fuel with
        | zero => intro k g hk hg hf; exact absurd hf (Nat.not_lt_zero _)
        | succ fuel ih =>
          intro k g hk hg hf H locs hP hS ls hl
          refine lv_iload hx hb dX6_taken_30 (lv_at hl 3 rfl) ?_
          refine lv_iload_n hx hb dX6_taken_32 rfl (lv_at hl 1 rfl) ?_
          refine nz_cge (a := k) (b := mt.2) (tgt := 57) hx hb dX6_taken_33 (by decide) (by omega) (by omega) (fun c_33 => ?_) (fun c_33 => ?_)
          · refine lv_iload_n hx hb dX6_taken_57 rfl (lv_at hl 2 rfl) ?_
            refine nz_ifeqB (tgt := 65) hx hb dX6_taken_58 (by decide) (fun c_58 => ?_) (fun c_58 => ?_)
            · refine lv_iconst (v := (-1)) hx hb dX6_taken_65 (by decide +kernel) ?_
              have hbg : bb = g := by
                have h9 : bb = true ↔ g = true := by
                  rw [hbb, hg]
                  constructor
                  · rintro ⟨h1, h2⟩
                    exact ⟨h2, h1.1, fun j hj => h1.2 j (by omega)⟩
                  · rintro ⟨h1, h2, h3⟩
                    refine ⟨⟨h2, fun j hj => ?_⟩, h1⟩
                    have hgt := hg.mpr ⟨h1, h2, h3⟩
                    first | exact absurd (c_37.symm.trans hgt) (by decide) | exact h3 j (by omega)
                cases bb with
                | true => exact (h9.mp rfl).symm
                | false => cases hg8 : g with
                  | false => rfl
                  | true => exact absurd (h9.mpr hg8) (by decide)
              rw [hbg, c_58] at hret
              exact hret 66 ls H locs dX6_taken_66 hP hS
            · refine lv_iload_n hx hb dX6_taken_61 rfl (lv_at hl 1 rfl) ?_
              refine lv_goto (tgt := 66) hx hb dX6_taken_62 (by decide) ?_
              have hbg : bb = g := by
                have h9 : bb = true ↔ g = true := by
                  rw [hbb, hg]
                  constructor
                  · rintro ⟨h1, h2⟩
                    exact ⟨h2, h1.1, fun j hj => h1.2 j (by omega)⟩
                  · rintro ⟨h1, h2, h3⟩
                    refine ⟨⟨h2, fun j hj => ?_⟩, h1⟩
                    have hgt := hg.mpr ⟨h1, h2, h3⟩
                    first | exact absurd (c_37.symm.trans hgt) (by decide) | exact h3 j (by omega)
                cases bb with
                | true => exact (h9.mp rfl).symm
                | false => cases hg8 : g with
                  | false => rfl
                  | true => exact absurd (h9.mpr hg8) (by decide)
              rw [hbg, c_58] at hret
              exact hret 66 ls H locs dX6_taken_66 hP hS
          · refine lv_iload_n hx hb dX6_taken_36 rfl (lv_at hl 2 rfl) ?_
            refine nz_ifeqB (tgt := 57) hx hb dX6_taken_37 (by decide) (fun c_37 => ?_) (fun c_37 => ?_)
            · refine lv_iload_n hx hb dX6_taken_57 rfl (lv_at hl 2 rfl) ?_
              refine nz_ifeqB (tgt := 65) hx hb dX6_taken_58 (by decide) (fun c_58 => ?_) (fun c_58 => ?_)
              · refine lv_iconst (v := (-1)) hx hb dX6_taken_65 (by decide +kernel) ?_
                have hbg : bb = g := by
                  have h9 : bb = true ↔ g = true := by
                    rw [hbb, hg]
                    constructor
                    · rintro ⟨h1, h2⟩
                      exact ⟨h2, h1.1, fun j hj => h1.2 j (by omega)⟩
                    · rintro ⟨h1, h2, h3⟩
                      refine ⟨⟨h2, fun j hj => ?_⟩, h1⟩
                      have hgt := hg.mpr ⟨h1, h2, h3⟩
                      first | exact absurd (c_37.symm.trans hgt) (by decide) | exact h3 j (by omega)
                  cases bb with
                  | true => exact (h9.mp rfl).symm
                  | false => cases hg8 : g with
                    | false => rfl
                    | true => exact absurd (h9.mpr hg8) (by decide)
                rw [hbg, c_58] at hret
                exact hret 66 ls H locs dX6_taken_66 hP hS
              · refine lv_iload_n hx hb dX6_taken_61 rfl (lv_at hl 1 rfl) ?_
                refine lv_goto (tgt := 66) hx hb dX6_taken_62 (by decide) ?_
                have hbg : bb = g := by
                  have h9 : bb = true ↔ g = true := by
                    rw [hbb, hg]
                    constructor
                    · rintro ⟨h1, h2⟩
                      exact ⟨h2, h1.1, fun j hj => h1.2 j (by omega)⟩
                    · rintro ⟨h1, h2, h3⟩
                      refine ⟨⟨h2, fun j hj => ?_⟩, h1⟩
                      have hgt := hg.mpr ⟨h1, h2, h3⟩
                      first | exact absurd (c_37.symm.trans hgt) (by decide) | exact h3 j (by omega)
                  cases bb with
                  | true => exact (h9.mp rfl).symm
                  | false => cases hg8 : g with
                    | false => rfl
                    | true => exact absurd (h9.mpr hg8) (by decide)
                rw [hbg, c_58] at hret
                exact hret 66 ls H locs dX6_taken_66 hP hS
            · refine lv_aload_n hx hb dX6_taken_40 rfl (lv_at hl 0 rfl) ?_
              refine va_get (D := D) (ci := 6) (v := .ref (b 1)) (C := RX6) (T := TX6) (N := 15) hx hb hts hinX6 hown hK hP 0 rfl rfl 0 (by decide) (hts (.fieldLink RX6 7 "TypoSuggesterModel" "tape" "[B") (by decide +kernel)) (fun _ h9 => h9) rfl dX6_taken_41 ?_
              refine lv_iload hx hb dX6_taken_44 (lv_at hl 3 rfl) ?_
              refine nz_baldR (f := mt.1) (k := k) hx hb hK hP 1 0 rfl rfl (by omega) (by decide) dX6_taken_46 ?_
              refine nz_callR (va_runS (As := [.int (mt.1 k)]) (rest := []) ⟨hx, hb, hml, hown, hts⟩ (mX6_isSmall l D b cs (mt.1, 0) ml mr mk (mt.1 k)) (va_cwS 1 hts gX6_taken_X6_isSmall rfl rfl rfl (by decide +kernel) ⟨Nat.le_of_ble_eq_true rfl, Nat.le_of_ble_eq_true rfl⟩) (nz_preS hK hP) rfl rfl hl.1 rfl (lv_room (Nat.le_of_ble_eq_true rfl)) dX6_taken_47 ⟨Nat.zero_le _, Nat.zero_le _⟩) ?_
              refine lv_istore_n (lv' := [(3, .int (bI (smB (mt.1 k)))), (0, .ref (b 0)), (2, .int (nI (mt.2))), (4, .int (nI (k)))]) hx hb dX6_taken_50 rfl hl (by decide) rfl (fun ls hl => ?_)
              refine lv_iinc (v := nI (k + 1)) (lv' := [(4, .int (nI (k + 1))), (3, .int (bI (smB (mt.1 k)))), (0, .ref (b 0)), (2, .int (nI (mt.2)))]) hx hb dX6_taken_51 hl (k := 3) rfl (nz_inc1 _) (by decide) rfl (fun ls hl => ?_)
              refine lv_goto (tgt := 30) hx hb dX6_taken_54 (by decide) ?_
              exact ih (k + 1) (smB (mt.1 k)) (by omega) ⟨fun h => ⟨(hg.mp c_37).1, (hg.mp c_37).2.1, lt_s (hg.mp c_37).2.2 h⟩, fun h => h.2.2 k (Nat.lt_succ_self _)⟩ (by omega) H locs hP hS ls (lv_sub hl [2, 3, 1, 0] rfl)
      exact loop (mt.2 - 0 + 1) 0 false (Nat.zero_le _) (⟨(fun h => by cases h), fun h => by have h1 := h.1; have h2 := h.2.1; omega⟩) (Nat.lt_succ_self _) H locs hP hS ls (lv_sub hl [3, 2, 1, 0] rfl)
    · refine lv_iconst (v := nI 1) hx hb dX6_taken_21 (by decide +kernel) ?_
      refine lv_goto (tgt := 26) hx hb dX6_taken_22 (by decide) ?_
      refine lv_istore_n (lv' := [(3, .int (nI (1))), (2, .int (nI (mt.2))), (0, .ref (b 0)), (1, .int (nI (lst)))]) hx hb dX6_taken_26 rfl hl (by decide) rfl (fun ls hl => ?_)
      have e_3 : (nI (1)) = (bI (true)) := bI_t
      have hl : lv_has ls 5 [(3, .int (bI (true))), (2, .int (nI (mt.2))), (0, .ref (b 0)), (1, .int (nI (lst)))] := by rw [← e_3]; exact hl
      refine lv_iconst (v := nI 0) hx hb dX6_taken_27 (by decide +kernel) ?_
      refine lv_istore (lv' := [(4, .int (nI (0))), (3, .int (bI (true))), (2, .int (nI (mt.2))), (0, .ref (b 0)), (1, .int (nI (lst)))]) hx hb dX6_taken_28 hl (by decide) rfl (fun ls hl => ?_)
      have loop : ∀ (fuel : Nat) (k : Nat) (g : Bool), (k ≤ mt.2) → (g = true ↔ (lst ≤ mt.2 ∧ mt.2 ≤ 24 ∧ ∀ j, j < k → smB (mt.1 j) = true)) → mt.2 - k < fuel → ∀ (H : Heap) (locs : List Loc), va_P D vwCl (wM b cs (mt.1, 0) ml mr mk) H → va_S (inM b) s.heap H locs → ∀ ls : Array Slot, lv_has ls 5 [(0, .ref (b 0)), (2, .int (nI (mt.2))), (3, .int (bI (g))), (4, .int (nI (k)))] → W p l e rmX6_taken s m args below meth c H locs 0 0 Q (F0 m 30 ls []) := by
        intro fuel
        induction fuel with
        | zero => intro k g hk hg hf; exact absurd hf (Nat.not_lt_zero _)
        | succ fuel ih =>
          intro k g hk hg hf H locs hP hS ls hl
          refine lv_iload hx hb dX6_taken_30 (lv_at hl 3 rfl) ?_
          refine lv_iload_n hx hb dX6_taken_32 rfl (lv_at hl 1 rfl) ?_
          refine nz_cge (a := k) (b := mt.2) (tgt := 57) hx hb dX6_taken_33 (by decide) (by omega) (by omega) (fun c_33 => ?_) (fun c_33 => ?_)
          · refine lv_iload_n hx hb dX6_taken_57 rfl (lv_at hl 2 rfl) ?_
            refine nz_ifeqB (tgt := 65) hx hb dX6_taken_58 (by decide) (fun c_58 => ?_) (fun c_58 => ?_)
            · refine lv_iconst (v := (-1)) hx hb dX6_taken_65 (by decide +kernel) ?_
              have hbg : bb = g := by
                have h9 : bb = true ↔ g = true := by
                  rw [hbb, hg]
                  constructor
                  · rintro ⟨h1, h2⟩
                    exact ⟨h2, h1.1, fun j hj => h1.2 j (by omega)⟩
                  · rintro ⟨h1, h2, h3⟩
                    refine ⟨⟨h2, fun j hj => ?_⟩, h1⟩
                    have hgt := hg.mpr ⟨h1, h2, h3⟩
                    first | exact absurd (c_37.symm.trans hgt) (by decide) | exact h3 j (by omega)
                cases bb with
                | true => exact (h9.mp rfl).symm
                | false => cases hg8 : g with
                  | false => rfl
                  | true => exact absurd (h9.mpr hg8) (by decide)
              rw [hbg, c_58] at hret
              exact hret 66 ls H locs dX6_taken_66 hP hS
            · refine lv_iload_n hx hb dX6_taken_61 rfl (lv_at hl 1 rfl) ?_
              refine lv_goto (tgt := 66) hx hb dX6_taken_62 (by decide) ?_
              have hbg : bb = g := by
                have h9 : bb = true ↔ g = true := by
                  rw [hbb, hg]
                  constructor
                  · rintro ⟨h1, h2⟩
                    exact ⟨h2, h1.1, fun j hj => h1.2 j (by omega)⟩
                  · rintro ⟨h1, h2, h3⟩
                    refine ⟨⟨h2, fun j hj => ?_⟩, h1⟩
                    have hgt := hg.mpr ⟨h1, h2, h3⟩
                    first | exact absurd (c_37.symm.trans hgt) (by decide) | exact h3 j (by omega)
                cases bb with
                | true => exact (h9.mp rfl).symm
                | false => cases hg8 : g with
                  | false => rfl
                  | true => exact absurd (h9.mpr hg8) (by decide)
              rw [hbg, c_58] at hret
              exact hret 66 ls H locs dX6_taken_66 hP hS
          · refine lv_iload_n hx hb dX6_taken_36 rfl (lv_at hl 2 rfl) ?_
            refine nz_ifeqB (tgt := 57) hx hb dX6_taken_37 (by decide) (fun c_37 => ?_) (fun c_37 => ?_)
            · refine lv_iload_n hx hb dX6_taken_57 rfl (lv_at hl 2 rfl) ?_
              refine nz_ifeqB (tgt := 65) hx hb dX6_taken_58 (by decide) (fun c_58 => ?_) (fun c_58 => ?_)
              · refine lv_iconst (v := (-1)) hx hb dX6_taken_65 (by decide +kernel) ?_
                have hbg : bb = g := by
                  have h9 : bb = true ↔ g = true := by
                    rw [hbb, hg]
                    constructor
                    · rintro ⟨h1, h2⟩
                      exact ⟨h2, h1.1, fun j hj => h1.2 j (by omega)⟩
                    · rintro ⟨h1, h2, h3⟩
                      refine ⟨⟨h2, fun j hj => ?_⟩, h1⟩
                      have hgt := hg.mpr ⟨h1, h2, h3⟩
                      first | exact absurd (c_37.symm.trans hgt) (by decide) | exact h3 j (by omega)
                  cases bb with
                  | true => exact (h9.mp rfl).symm
                  | false => cases hg8 : g with
                    | false => rfl
                    | true => exact absurd (h9.mpr hg8) (by decide)
                rw [hbg, c_58] at hret
                exact hret 66 ls H locs dX6_taken_66 hP hS
              · refine lv_iload_n hx hb dX6_taken_61 rfl (lv_at hl 1 rfl) ?_
                refine lv_goto (tgt := 66) hx hb dX6_taken_62 (by decide) ?_
                have hbg : bb = g := by
                  have h9 : bb = true ↔ g = true := by
                    rw [hbb, hg]
                    constructor
                    · rintro ⟨h1, h2⟩
                      exact ⟨h2, h1.1, fun j hj => h1.2 j (by omega)⟩
                    · rintro ⟨h1, h2, h3⟩
                      refine ⟨⟨h2, fun j hj => ?_⟩, h1⟩
                      have hgt := hg.mpr ⟨h1, h2, h3⟩
                      first | exact absurd (c_37.symm.trans hgt) (by decide) | exact h3 j (by omega)
                  cases bb with
                  | true => exact (h9.mp rfl).symm
                  | false => cases hg8 : g with
                    | false => rfl
                    | true => exact absurd (h9.mpr hg8) (by decide)
                rw [hbg, c_58] at hret
                exact hret 66 ls H locs dX6_taken_66 hP hS
            · refine lv_aload_n hx hb dX6_taken_40 rfl (lv_at hl 0 rfl) ?_
              refine va_get (D := D) (ci := 6) (v := .ref (b 1)) (C := RX6) (T := TX6) (N := 15) hx hb hts hinX6 hown hK hP 0 rfl rfl 0 (by decide) (hts (.fieldLink RX6 7 "TypoSuggesterModel" "tape" "[B") (by decide +kernel)) (fun _ h9 => h9) rfl dX6_taken_41 ?_
              refine lv_iload hx hb dX6_taken_44 (lv_at hl 3 rfl) ?_
              refine nz_baldR (f := mt.1) (k := k) hx hb hK hP 1 0 rfl rfl (by omega) (by decide) dX6_taken_46 ?_
              refine nz_callR (va_runS (As := [.int (mt.1 k)]) (rest := []) ⟨hx, hb, hml, hown, hts⟩ (mX6_isSmall l D b cs (mt.1, 0) ml mr mk (mt.1 k)) (va_cwS 1 hts gX6_taken_X6_isSmall rfl rfl rfl (by decide +kernel) ⟨Nat.le_of_ble_eq_true rfl, Nat.le_of_ble_eq_true rfl⟩) (nz_preS hK hP) rfl rfl hl.1 rfl (lv_room (Nat.le_of_ble_eq_true rfl)) dX6_taken_47 ⟨Nat.zero_le _, Nat.zero_le _⟩) ?_
              refine lv_istore_n (lv' := [(3, .int (bI (smB (mt.1 k)))), (0, .ref (b 0)), (2, .int (nI (mt.2))), (4, .int (nI (k)))]) hx hb dX6_taken_50 rfl hl (by decide) rfl (fun ls hl => ?_)
              refine lv_iinc (v := nI (k + 1)) (lv' := [(4, .int (nI (k + 1))), (3, .int (bI (smB (mt.1 k)))), (0, .ref (b 0)), (2, .int (nI (mt.2)))]) hx hb dX6_taken_51 hl (k := 3) rfl (nz_inc1 _) (by decide) rfl (fun ls hl => ?_)
              refine lv_goto (tgt := 30) hx hb dX6_taken_54 (by decide) ?_
              exact ih (k + 1) (smB (mt.1 k)) (by omega) ⟨fun h => ⟨(hg.mp c_37).1, (hg.mp c_37).2.1, lt_s (hg.mp c_37).2.2 h⟩, fun h => h.2.2 k (Nat.lt_succ_self _)⟩ (by omega) H locs hP hS ls (lv_sub hl [2, 3, 1, 0] rfl)
      exact loop (mt.2 - 0 + 1) 0 true (Nat.zero_le _) (⟨fun _ => ⟨c_12, c_18, fun j h => absurd h (Nat.not_lt_zero _)⟩, fun _ => rfl⟩) (Nat.lt_succ_self _) H locs hP hS ls (lv_sub hl [3, 2, 1, 0] rfl)
theorem cmp_congr {f : Nat → Nat} {n : Nat} {g g' : Nat → Nat} {z z' : Nat} {x : Int32} (hz : z = z') (hg : ∀ j, j < z → g j = g' j) (h : CmpIs f n g z x) : CmpIs f n g' z' x := by
  subst hz
  rcases h with ⟨h, e⟩ | ⟨h, e⟩ | ⟨h, e⟩
  · exact Or.inl ⟨ltF_congr (fun _ _ => rfl) hg h, e⟩
  · exact Or.inr (Or.inl ⟨⟨h.1, fun j hj => (h.2 j hj).trans (hg j (by have := h.1; omega))⟩, e⟩)
  · exact Or.inr (Or.inr ⟨ltF_congr hg (fun _ _ => rfl) h, e⟩)
abbrev rmX6_add : Room := { frames := 2, cells := 0, slots := 0, locals := 45 }
set_option maxHeartbeats 4000000 in
set_option maxRecDepth 100000 in
theorem mX6_add (l : Launch) (D : va_G) (b : Nat → Nat) (cs : Nat → ClassId) (mt : (Nat → Int32) × Nat) (ml : (Nat → Nat) × (Nat → Nat) × (Nat → Nat) × Nat × Nat) (mr : (Nat → Nat) × (Nat → Nat) × (Nat → Nat) × (Nat → Nat) × Nat) (mk : (Nat → Bool) × (Nat → Nat) × (Nat → Nat)) (fr : Nat) (ln : Nat) (wt : Nat) (p9 : Nat) (b2 : Bool) (hb2 : wInjM b) (hM : MlB ml) (hfl : fr + ln ≤ 400) (hln : ln ≤ 24) (hlet : ∀ j, j < ln → lowN (mt.1 (fr + j)) ≠ 0) (hwt : wt ≤ 1000000000000) (hp1 : p9 ≤ ml.2.2.2.1) (hp2 : ∀ i, i < p9 → ltF (TM ml i) (ZM ml i) (fun j => lowN (mt.1 (fr + j))) ln) (hp3 : ∀ i, p9 ≤ i → i < ml.2.2.2.1 → ltF (fun j => lowN (mt.1 (fr + j))) ln (TM ml i) (ZM ml i)) (hb9 : b2 = true ↔ (ml.2.2.2.1 < 600 ∧ ml.2.2.2.2 + ln ≤ 6000)) : Met l yX6_add wsX6_add rmX6_add (wdP D vwCl (wM b cs mt ml mr mk) (tyX cs) [.ref (b 0), .int (nI (fr)), .int (nI (ln)), .long (lN (wt))]) (wrQ (some (.int (bif b2 then nI p9 else (-1)))) (fun H => ∃ ml9, (MlB ml9 ∧ (b2 = true → VIns ml.2.2.2.1 p9 (ZM ml) (TM ml) ml.2.2.1 (ZM ml9) (TM ml9) ml9.2.2.1 (fun j => lowN (mt.1 (fr + j))) ln wt ∧ ml9.2.2.2.1 = ml.2.2.2.1 + 1 ∧ ml9.2.2.2.2 = ml.2.2.2.2 + ln) ∧ (b2 = false → ml9 = ml)) ∧ va_P D vwCl (wM b cs mt ml9 mr mk) H) (inM b)) 0 0 (inM b) := by
  obtain ⟨hM1, hM2, hM3, hM4, hM5⟩ := id hM
  refine nz_metWi (by decide) rfl (Nat.le_of_ble_eq_true rfl) rfl ?_
  intro p e s m args below meth c Q hx hb hml hts hown hP hK hret ls hl
  have hl : lv_has ls 7 [(0, .ref (b 0)), (1, .int (nI (fr))), (2, .int (nI (ln))), (3, .long (lN (wt)))] := hl
  have hown : s.vm.findClass RX6 = some m.cls := hown
  have hinX6 : ∀ w ∈ u_ws RX6 TX6 15, w ∈ wsX6_add := by decide +kernel
  have hS : va_S (inM b) s.heap s.heap [] := va_S.rf
  obtain ⟨H, hH⟩ : ∃ H, H = s.heap := ⟨_, rfl⟩
  obtain ⟨locs, hlocs⟩ : ∃ locs : List Loc, locs = [] := ⟨_, rfl⟩
  have hP : va_P D vwCl (wM b cs mt ml mr mk) H := hH ▸ hP
  have hS : va_S (inM b) s.heap H locs := by rw [hH, hlocs]; exact va_S.rf
  suffices hgo : W p l e rmX6_add s m args below meth c H locs 0 0 Q (F0 m 0 ls []) by rw [hH, hlocs] at hgo; exact hgo
  clear hH hlocs
  refine lv_aload_n hx hb dX6_add_0 rfl (lv_at hl 0 rfl) ?_
  refine va_get (D := D) (ci := 6) (v := .int (nI (ml.2.2.2.1))) (C := RX6) (T := TX6) (N := 15) hx hb hts hinX6 hown hK hP 0 rfl rfl 2 (by decide) (hts (.fieldLink RX6 46 "TypoSuggesterModel" "count" "I") (by decide +kernel)) (fun _ h9 => h9) rfl dX6_add_1 ?_
  refine lv_sipush (v := nI 600) hx hb dX6_add_4 (by decide +kernel) ?_
  refine nz_ceq (a := ml.2.2.2.1) (b := 600) (tgt := 22) hx hb dX6_add_7 (by decide) (by omega) (by omega) (fun c_7 => ?_) (fun c_7 => ?_)
  · refine lv_iconst (v := (-1)) hx hb dX6_add_22 (by decide +kernel) ?_
    have hbv : b2 = false := by cases b2 with | false => rfl | true => exact absurd (hb9.mp rfl) (by omega)
    subst hbv
    exact hret 23 ls H locs dX6_add_23 ⟨ml, ⟨hM, fun h => (by cases h), fun _ => rfl⟩, hP⟩ hS
  · refine lv_aload_n hx hb dX6_add_10 rfl (lv_at hl 0 rfl) ?_
    refine va_get (D := D) (ci := 6) (v := .int (nI (ml.2.2.2.2))) (C := RX6) (T := TX6) (N := 15) hx hb hts hinX6 hown hK hP 0 rfl rfl 3 (by decide) (hts (.fieldLink RX6 61 "TypoSuggesterModel" "letterCount" "I") (by decide +kernel)) (fun _ h9 => h9) rfl dX6_add_11 ?_
    refine lv_iload_n hx hb dX6_add_14 rfl (lv_at hl 2 rfl) ?_
    refine nz_iadd (a := ml.2.2.2.2) (b := ln) hx hb dX6_add_15 ?_
    refine lv_sipush (v := nI 6000) hx hb dX6_add_16 (by decide +kernel) ?_
    refine nz_cle (a := ml.2.2.2.2 + ln) (b := 6000) (tgt := 24) hx hb dX6_add_19 (by decide) (by omega) (by omega) (fun c_19 => ?_) (fun c_19 => ?_)
    · refine lv_aload_n hx hb dX6_add_24 rfl (lv_at hl 0 rfl) ?_
      refine va_get (D := D) (ci := 6) (v := .int (nI (ml.2.2.2.1))) (C := RX6) (T := TX6) (N := 15) hx hb hts hinX6 hown hK hP 0 rfl rfl 2 (by decide) (hts (.fieldLink RX6 46 "TypoSuggesterModel" "count" "I") (by decide +kernel)) (fun _ h9 => h9) rfl dX6_add_25 ?_
      refine lv_istore (lv' := [(5, .int (nI (ml.2.2.2.1))), (0, .ref (b 0)), (1, .int (nI (fr))), (2, .int (nI (ln))), (3, .long (lN (wt)))]) hx hb dX6_add_28 hl (by decide) rfl (fun ls hl => ?_)
      have join : ∀ (ml2 : (Nat → Nat) × (Nat → Nat) × (Nat → Nat) × Nat × Nat), (ShM ml ml2 p9) → ∀ (H : Heap) (locs : List Loc), va_P D vwCl (wM b cs mt ml2 mr mk) H → va_S (inM b) s.heap H locs → ∀ ls : Array Slot, lv_has ls 7 [(0, .ref (b 0)), (1, .int (nI (fr))), (2, .int (nI (ln))), (3, .long (lN (wt))), (5, .int (nI (p9)))] → W p l e rmX6_add s m args below meth c H locs 0 0 Q (F0 m 64 ls []) := by
        intro ml2 hsh H locs hP hS ls hl
        obtain ⟨hN1, hN2, hN3, hN4, hN5⟩ := id hsh.1
        have hnc := hsh.2.1
        have hnl := hsh.2.2.1
        refine lv_iconst (v := nI 0) hx hb dX6_add_64 (by decide +kernel) ?_
        refine lv_istore (lv' := [(6, .int (nI (0))), (0, .ref (b 0)), (1, .int (nI (fr))), (2, .int (nI (ln))), (3, .long (lN (wt))), (5, .int (nI (p9)))]) hx hb dX6_add_65 hl (by decide) rfl (fun ls hl => ?_)
        have hP : va_P D vwCl (wM b cs mt (va_cpy (fun j => lowN (mt.1 (fr + j))) ml2.1 0 (24 * p9) 0, ml2.2.1, ml2.2.2.1, ml2.2.2.2.1, ml2.2.2.2.2) mr mk) H := by rw [cpy_0]; exact hP
        have loop3 : ∀ (fuel : Nat) (k : Nat), (k ≤ ln) → ln - k < fuel → ∀ (H : Heap) (locs : List Loc), va_P D vwCl (wM b cs mt (va_cpy (fun j => lowN (mt.1 (fr + j))) ml2.1 0 (24 * p9) k, ml2.2.1, ml2.2.2.1, ml2.2.2.2.1, ml2.2.2.2.2) mr mk) H → va_S (inM b) s.heap H locs → ∀ ls : Array Slot, lv_has ls 7 [(0, .ref (b 0)), (1, .int (nI (fr))), (2, .int (nI (ln))), (3, .long (lN (wt))), (5, .int (nI (p9))), (6, .int (nI (k)))] → W p l e rmX6_add s m args below meth c H locs 0 0 Q (F0 m 67 ls []) := by
          intro fuel
          induction fuel with
          | zero => intro k hk hf; exact absurd hf (Nat.not_lt_zero _)
          | succ fuel ih =>
            intro k hk hf H locs hP hS ls hl
            refine lv_iload hx hb dX6_add_67 (lv_at hl 5 rfl) ?_
            refine lv_iload_n hx hb dX6_add_69 rfl (lv_at hl 2 rfl) ?_
            refine nz_cge (a := k) (b := ln) (tgt := 105) hx hb dX6_add_70 (by decide) (by omega) (by omega) (fun c_70 => ?_) (fun c_70 => ?_)
            · rw [show k = ln by omega] at hP
              refine lv_aload_n hx hb dX6_add_105 rfl (lv_at hl 0 rfl) ?_
              refine va_get (D := D) (ci := 6) (v := .ref (b 3)) (C := RX6) (T := TX6) (N := 15) hx hb hts hinX6 hown hK hP 0 rfl rfl 5 (by decide) (hts (.fieldLink RX6 16 "TypoSuggesterModel" "sizes" "[I") (by decide +kernel)) (fun _ h9 => h9) rfl dX6_add_106 ?_
              refine lv_iload hx hb dX6_add_109 (lv_at hl 4 rfl) ?_
              refine lv_iload_n hx hb dX6_add_111 rfl (lv_at hl 2 rfl) ?_
              refine nz_iast (f := ml2.2.1) (k := p9) (v := ln) (ws' := wM b cs mt (va_cpy (fun j => lowN (mt.1 (fr + j))) ml2.1 0 (24 * p9) ln, va_up ml2.2.1 p9 ln, ml2.2.2.1, ml2.2.2.2.1, ml2.2.2.2.2) mr mk) hx hb hK hP (wM_D hb2) hS 3 1 rfl rfl (by omega) (by decide) dX6_add_112 rfl (fun H locs hP hS => ?_)
              refine lv_aload_n hx hb dX6_add_113 rfl (lv_at hl 0 rfl) ?_
              refine va_get (D := D) (ci := 6) (v := .ref (b 4)) (C := RX6) (T := TX6) (N := 15) hx hb hts hinX6 hown hK hP 0 rfl rfl 6 (by decide) (hts (.fieldLink RX6 20 "TypoSuggesterModel" "weights" "[J") (by decide +kernel)) (fun _ h9 => h9) rfl dX6_add_114 ?_
              refine lv_iload hx hb dX6_add_117 (lv_at hl 4 rfl) ?_
              refine lv_lload_n hx hb dX6_add_119 rfl (lv_at hl 3 rfl) ?_
              refine nz_last (f := ml2.2.2.1) (k := p9) (v := wt) (ws' := wM b cs mt (va_cpy (fun j => lowN (mt.1 (fr + j))) ml2.1 0 (24 * p9) ln, va_up ml2.2.1 p9 ln, va_up ml2.2.2.1 p9 wt, ml2.2.2.2.1, ml2.2.2.2.2) mr mk) hx hb hK hP (wM_D hb2) hS 4 2 rfl rfl (by omega) (by decide) dX6_add_120 rfl (fun H locs hP hS => ?_)
              refine lv_aload_n hx hb dX6_add_121 rfl (lv_at hl 0 rfl) ?_
              refine lv_dup hx hb dX6_add_122 rfl ?_
              refine va_get (D := D) (ci := 6) (v := .int (nI (ml2.2.2.2.1))) (C := RX6) (T := TX6) (N := 15) hx hb hts hinX6 hown hK hP 0 rfl rfl 2 (by decide) (hts (.fieldLink RX6 46 "TypoSuggesterModel" "count" "I") (by decide +kernel)) (fun _ h9 => h9) rfl dX6_add_123 ?_
              refine lv_iconst (v := nI 1) hx hb dX6_add_126 (by decide +kernel) ?_
              refine nz_iadd (a := ml2.2.2.2.1) (b := 1) hx hb dX6_add_127 ?_
              refine nz_put (D := D) (ci := 6) (v := .int (nI (ml2.2.2.2.1 + 1))) (ty := .int) (ws' := wM b cs mt (va_cpy (fun j => lowN (mt.1 (fr + j))) ml2.1 0 (24 * p9) ln, va_up ml2.2.1 p9 ln, va_up ml2.2.2.1 p9 wt, ml2.2.2.2.1 + 1, ml2.2.2.2.2) mr mk) (C := RX6) (T := TX6) (N := 15) hx hb hts hinX6 tyX6 tyX6_ok nmX6 hown hK hP (wM_D hb2) hS 0 rfl rfl 2 (by decide) (hts (.fieldLink RX6 46 "TypoSuggesterModel" "count" "I") (by decide +kernel)) (fun _ h9 => h9) rfl (by decide +kernel) rfl rfl (Nat.le_of_ble_eq_true rfl) dX6_add_128 rfl (fun H locs hP hS => ?_)
              refine lv_aload_n hx hb dX6_add_131 rfl (lv_at hl 0 rfl) ?_
              refine lv_dup hx hb dX6_add_132 rfl ?_
              refine va_get (D := D) (ci := 6) (v := .int (nI (ml2.2.2.2.2))) (C := RX6) (T := TX6) (N := 15) hx hb hts hinX6 hown hK hP 0 rfl rfl 3 (by decide) (hts (.fieldLink RX6 61 "TypoSuggesterModel" "letterCount" "I") (by decide +kernel)) (fun _ h9 => h9) rfl dX6_add_133 ?_
              refine lv_iload_n hx hb dX6_add_136 rfl (lv_at hl 2 rfl) ?_
              refine nz_iadd (a := ml2.2.2.2.2) (b := ln) hx hb dX6_add_137 ?_
              refine nz_put (D := D) (ci := 6) (v := .int (nI (ml2.2.2.2.2 + ln))) (ty := .int) (ws' := wM b cs mt (va_cpy (fun j => lowN (mt.1 (fr + j))) ml2.1 0 (24 * p9) ln, va_up ml2.2.1 p9 ln, va_up ml2.2.2.1 p9 wt, ml2.2.2.2.1 + 1, ml2.2.2.2.2 + ln) mr mk) (C := RX6) (T := TX6) (N := 15) hx hb hts hinX6 tyX6 tyX6_ok nmX6 hown hK hP (wM_D hb2) hS 0 rfl rfl 3 (by decide) (hts (.fieldLink RX6 61 "TypoSuggesterModel" "letterCount" "I") (by decide +kernel)) (fun _ h9 => h9) rfl (by decide +kernel) rfl rfl (Nat.le_of_ble_eq_true rfl) dX6_add_138 rfl (fun H locs hP hS => ?_)
              refine lv_iload hx hb dX6_add_141 (lv_at hl 4 rfl) ?_
              have hbv : b2 = true := hb9.mpr (by omega)
              subst hbv
              have hin := shM_ins (n := ln) (wt := wt) (f := fun j => lowN (mt.1 (fr + j))) hM hsh hp1 hln (fun j hj => (sml_low (hlet j hj)).2) (by omega) hwt
              refine hret 143 ls H locs dX6_add_143 ⟨_, ⟨hin.1, fun _ => ⟨hin.2, ?_, ?_⟩, fun h => (by cases h)⟩, hP⟩ hS
              · show ml2.2.2.2.1 + 1 = ml.2.2.2.1 + 1
                omega
              · show ml2.2.2.2.2 + ln = ml.2.2.2.2 + ln
                omega
            · refine lv_aload_n hx hb dX6_add_73 rfl (lv_at hl 0 rfl) ?_
              refine va_get (D := D) (ci := 6) (v := .ref (b 2)) (C := RX6) (T := TX6) (N := 15) hx hb hts hinX6 hown hK hP 0 rfl rfl 4 (by decide) (hts (.fieldLink RX6 13 "TypoSuggesterModel" "letters" "[B") (by decide +kernel)) (fun _ h9 => h9) rfl dX6_add_74 ?_
              refine lv_bipush (v := nI 24) hx hb dX6_add_77 (by decide +kernel) ?_
              refine lv_iload hx hb dX6_add_79 (lv_at hl 4 rfl) ?_
              refine nz_imul (a := 24) (b := p9) hx hb dX6_add_81 ?_
              refine lv_iload hx hb dX6_add_82 (lv_at hl 5 rfl) ?_
              refine nz_iadd (a := 24 * p9) (b := k) hx hb dX6_add_84 ?_
              refine lv_aload_n hx hb dX6_add_85 rfl (lv_at hl 0 rfl) ?_
              refine va_get (D := D) (ci := 6) (v := .ref (b 1)) (C := RX6) (T := TX6) (N := 15) hx hb hts hinX6 hown hK hP 0 rfl rfl 0 (by decide) (hts (.fieldLink RX6 7 "TypoSuggesterModel" "tape" "[B") (by decide +kernel)) (fun _ h9 => h9) rfl dX6_add_86 ?_
              refine lv_iload_n hx hb dX6_add_89 rfl (lv_at hl 1 rfl) ?_
              refine lv_iload hx hb dX6_add_90 (lv_at hl 5 rfl) ?_
              refine nz_iadd (a := fr) (b := k) hx hb dX6_add_92 ?_
              refine nz_baldR (f := mt.1) (k := fr + k) hx hb hK hP 1 0 rfl rfl (by omega) (by decide) dX6_add_93 ?_
              refine nz_callR (va_runS (As := [.int (mt.1 (fr + k))]) (rest := [.int (nI (24 * p9 + k)), .ref (b 2)]) ⟨hx, hb, hml, hown, hts⟩ (mX6_small l D b cs mt (va_cpy (fun j => lowN (mt.1 (fr + j))) ml2.1 0 (24 * p9) k, ml2.2.1, ml2.2.2.1, ml2.2.2.2.1, ml2.2.2.2.2) mr mk (mt.1 (fr + k))) (va_cwS 1 hts gX6_add_X6_small rfl rfl rfl (by decide +kernel) ⟨Nat.le_of_ble_eq_true rfl, Nat.le_of_ble_eq_true rfl⟩) (nz_preS hK hP) rfl rfl hl.1 rfl (lv_room (Nat.le_of_ble_eq_true rfl)) dX6_add_94 ⟨Nat.zero_le _, Nat.zero_le _⟩) ?_
              have hlk := sml_low (hlet k c_70)
              refine nz_top (y := nI (lowN (mt.1 (fr + k)))) hlk.1 ?_
              refine lv_i2b (v := nI (lowN (mt.1 (fr + k)))) hx hb dX6_add_97 (nz_b8 _ hlk.2).2.2 ?_
              refine nz_bast (f := va_cpy (fun j => lowN (mt.1 (fr + j))) ml2.1 0 (24 * p9) k) (k := 24 * p9 + k) (v := lowN (mt.1 (fr + k))) (ws' := wM b cs mt (va_up (va_cpy (fun j => lowN (mt.1 (fr + j))) ml2.1 0 (24 * p9) k) (24 * p9 + k) (lowN (mt.1 (fr + k))), ml2.2.1, ml2.2.2.1, ml2.2.2.2.1, ml2.2.2.2.2) mr mk) hx hb hK hP (wM_D hb2) hS 2 0 rfl rfl (by omega) (by decide) hlk.2 dX6_add_98 rfl (fun H locs hP hS => ?_)
              have e_1 : va_up (va_cpy (fun j => lowN (mt.1 (fr + j))) ml2.1 0 (24 * p9) k) (24 * p9 + k) (lowN (mt.1 (fr + k))) = va_cpy (fun j => lowN (mt.1 (fr + j))) ml2.1 0 (24 * p9) (k + 1) := cpy_step (by show _ = lowN (mt.1 (fr + (0 + k))); rw [Nat.zero_add])
              rw [e_1] at hP
              refine lv_iinc (v := nI (k + 1)) (lv' := [(6, .int (nI (k + 1))), (0, .ref (b 0)), (1, .int (nI (fr))), (2, .int (nI (ln))), (3, .long (lN (wt))), (5, .int (nI (p9)))]) hx hb dX6_add_99 hl (k := 5) rfl (nz_inc1 _) (by decide) rfl (fun ls hl => ?_)
              refine lv_goto (tgt := 67) hx hb dX6_add_102 (by decide) ?_
              exact ih (k + 1) (by omega) (by omega) H locs hP hS ls (lv_sub hl [1, 2, 3, 4, 5, 0] rfl)
        exact loop3 (ln - 0 + 1) 0 (Nat.zero_le _) (Nat.lt_succ_self _) H locs hP hS ls (lv_sub hl [1, 2, 3, 4, 5, 0] rfl)
      have loop : ∀ (fuel : Nat) (k : Nat) (ml2 : (Nat → Nat) × (Nat → Nat) × (Nat → Nat) × Nat × Nat), (p9 ≤ k) → (k ≤ ml.2.2.2.1) → (ShM ml ml2 k) → k < fuel → ∀ (H : Heap) (locs : List Loc), va_P D vwCl (wM b cs mt ml2 mr mk) H → va_S (inM b) s.heap H locs → ∀ ls : Array Slot, lv_has ls 7 [(0, .ref (b 0)), (1, .int (nI (fr))), (2, .int (nI (ln))), (3, .long (lN (wt))), (5, .int (nI (k)))] → W p l e rmX6_add s m args below meth c H locs 0 0 Q (F0 m 30 ls []) := by
        intro fuel
        induction fuel with
        | zero => intro k ml2 hk1 hk2 hsh hf; exact absurd hf (Nat.not_lt_zero _)
        | succ fuel ih =>
          intro k ml2 hk1 hk2 hsh hf H locs hP hS ls hl
          refine lv_iload hx hb dX6_add_30 (lv_at hl 4 rfl) ?_
          refine nz_ifle (a := k) (tgt := 64) hx hb dX6_add_32 (by decide) (by omega) (fun c_32 => ?_) (fun c_32 => ?_)
          · have hkp : k = p9 := by omega
            subst hkp
            exact join ml2 hsh H locs hP hS ls (lv_sub hl [0, 1, 2, 3, 4] rfl)
          · refine lv_aload_n hx hb dX6_add_35 rfl (lv_at hl 0 rfl) ?_
            refine lv_iload_n hx hb dX6_add_36 rfl (lv_at hl 1 rfl) ?_
            refine lv_iload_n hx hb dX6_add_37 rfl (lv_at hl 2 rfl) ?_
            refine lv_iload hx hb dX6_add_38 (lv_at hl 4 rfl) ?_
            refine lv_iconst (v := nI 1) hx hb dX6_add_40 (by decide +kernel) ?_
            refine nz_isub (a := k) (b := 1) hx hb dX6_add_41 (by omega) ?_
            obtain ⟨hs1, hs2, hs3⟩ := hsh.2.2.2.1 (k - 1) (by omega)
            have hz9 : ml.2.1 (k - 1) ≤ 24 := hM2 _
            obtain ⟨x, hcx0⟩ := cmp_ex (fun j => lowN (mt.1 (fr + j))) ln (TM ml (k - 1)) (ZM ml (k - 1))
            have hcx : CmpIs (fun j => lowN (mt.1 (fr + j))) ln (TM ml2 (k - 1)) (ZM ml2 (k - 1)) x := cmp_congr hs1.symm (fun j hj => (hs2 j (by omega)).symm) hcx0
            refine nz_callR (va_runV (As := [.int (nI (fr)), .int (nI (ln)), .int (nI (k - 1))]) (rest := []) ⟨hx, hb, hml, hown, hts⟩ (mX6_compare l D b cs mt ml2 mr mk fr ln (k - 1) x hsh.1 (by omega) (by omega) hlet (by omega) hcx) (cwV 3 hts gX6_add_X6_compare rfl rfl rfl (by decide +kernel) ⟨Nat.le_of_ble_eq_true rfl, Nat.le_of_ble_eq_true rfl⟩) (nz_preV (ci := 6) (q0 := 0) hK hP rfl rfl) rfl rfl hl.1 rfl (lv_room (Nat.le_of_ble_eq_true rfl)) dX6_add_42 ⟨Nat.zero_le _, Nat.zero_le _⟩) ?_
            refine lv_if_ge (tgt := 64) hx hb dX6_add_45 (by decide) (fun c_45 => ?_) (fun c_45 => ?_)
            · have hkp : k = p9 := by
                rcases Nat.lt_or_ge p9 k with h | h
                · exact absurd (hp3 (k - 1) (by omega) (by omega)) (cmp_nn hcx0 c_45)
                · omega
              subst hkp
              exact join ml2 hsh H locs hP hS ls (lv_sub hl [0, 1, 2, 3, 4] rfl)
            · have hkp : p9 < k := by
                rcases Nat.lt_or_ge p9 k with h | h
                · exact h
                · exact absurd (hp2 (k - 1) (by omega)) (ltF_asym (cmp_neg hcx0 c_45))
              refine lv_aload_n hx hb dX6_add_48 rfl (lv_at hl 0 rfl) ?_
              refine lv_iload hx hb dX6_add_49 (lv_at hl 4 rfl) ?_
              refine lv_iconst (v := nI 1) hx hb dX6_add_51 (by decide +kernel) ?_
              refine nz_isub (a := k) (b := 1) hx hb dX6_add_52 (by omega) ?_
              refine lv_iload hx hb dX6_add_53 (lv_at hl 4 rfl) ?_
              refine nz_callW (va_runV (As := [.int (nI (k - 1)), .int (nI (k))]) (rest := []) ⟨hx, hb, hml, hown, hts⟩ (mX6_move l D b cs mt ml2 mr mk (k - 1) k hb2 hsh.1 (by omega) (by omega) (by omega)) (cwV 2 hts gX6_add_X6_move rfl rfl rfl (by decide +kernel) ⟨Nat.le_of_ble_eq_true rfl, Nat.le_of_ble_eq_true rfl⟩) (nz_preV (ci := 6) (q0 := 0) hK hP rfl rfl) rfl rfl hl.1 rfl (lv_room (Nat.le_of_ble_eq_true rfl)) dX6_add_55 ⟨Nat.zero_le _, Nat.zero_le _⟩) hS (fun _ h => h) (fun H locs hP _ _ hS => ?_)
              refine lv_iinc (v := nI (k - 1)) (lv' := [(5, .int (nI (k - 1))), (0, .ref (b 0)), (1, .int (nI (fr))), (2, .int (nI (ln))), (3, .long (lN (wt)))]) hx hb dX6_add_58 hl (k := 4) rfl (nz_incm (by omega)) (by decide) rfl (fun ls hl => ?_)
              refine lv_goto (tgt := 30) hx hb dX6_add_61 (by decide) ?_
              exact ih (k - 1) ((va_cpy ml2.1 ml2.1 (24 * (k - 1)) (24 * k) 24, va_up ml2.2.1 k (ml2.2.1 (k - 1)), va_up ml2.2.2.1 k (ml2.2.2.1 (k - 1)), ml2.2.2.2.1, ml2.2.2.2.2)) (by omega) (by omega) (shM_step hsh (by omega) (by omega)) (by omega) H locs hP hS ls (lv_sub hl [1, 2, 3, 4, 0] rfl)
      exact loop (ml.2.2.2.1 + 1) ml.2.2.2.1 ml hp1 (Nat.le_refl _) (⟨hM, rfl, rfl, fun i _ => ⟨rfl, fun _ _ => rfl, rfl⟩, fun i h1 h2 => absurd h2 (by omega)⟩) (Nat.lt_succ_self _) H locs hP hS ls (lv_sub hl [1, 2, 3, 4, 0] rfl)
    · refine lv_iconst (v := (-1)) hx hb dX6_add_22 (by decide +kernel) ?_
      have hbv : b2 = false := by cases b2 with | false => rfl | true => exact absurd (hb9.mp rfl) (by omega)
      subst hbv
      exact hret 23 ls H locs dX6_add_23 ⟨ml, ⟨hM, fun h => (by cases h), fun _ => rfl⟩, hP⟩ hS
