/-! ask: the terms of the greatest weights among those that are near. -/
def bef (V : Nat → Nat) (i j : Nat) : Prop := V j < V i ∨ (V j = V i ∧ i < j)
/-- pl 0, pl 1 .. pl (c - 1): of those i below n with P the first k by bef -/
def IsTop (n : Nat) (P : Nat → Bool) (V : Nat → Nat) (k : Nat) (pl : Nat → Nat) (c : Nat) : Prop :=
  c ≤ k ∧ (∀ a, a < c → pl a < n ∧ P (pl a) = true) ∧ (∀ a b, a < b → b < c → bef V (pl a) (pl b)) ∧ (∀ i, i < n → P i = true → (∃ a, a < c ∧ pl a = i) ∨ (c = k ∧ ∀ a, a < c → bef V (pl a) i))
theorem bef_irr {V : Nat → Nat} {i : Nat} : ¬ bef V i i := by unfold bef; omega
theorem bef_asym {V : Nat → Nat} {i j : Nat} (h : bef V i j) (h2 : bef V j i) : False := by unfold bef at h h2; omega
theorem bef_trans {V : Nat → Nat} {i j k : Nat} (h : bef V i j) (h2 : bef V j k) : bef V i k := by unfold bef at h h2 ⊢; omega
theorem top_un1 {n : Nat} {P : Nat → Bool} {V : Nat → Nat} {k : Nat} {pl pl' : Nat → Nat} {c c' : Nat} (h : IsTop n P V k pl c) (h' : IsTop n P V k pl' c') : ∀ a, a < c → (∀ b, b < a → b < c' ∧ pl b = pl' b) → a < c' ∧ pl a = pl' a := by
  intro a ha hb
  obtain ⟨h1, h2, h3, h4⟩ := h
  obtain ⟨k1, k2, k3, k4⟩ := h'
  -- if pl' a is another one that goes before pl a, it is among the earlier ones, twice
  have key : a < c' → ¬ bef V (pl' a) (pl a) := by
    intro hac hbf
    rcases h4 (pl' a) (k2 a hac).1 (k2 a hac).2 with ⟨d, hd, e⟩ | ⟨e, hall⟩
    · rcases Nat.lt_trichotomy d a with z | z | z
      · have e2 := (hb d z).2
        have := k3 d a z hac
        rw [← e2, e] at this
        exact bef_irr this
      · rw [z] at e
        rw [← e] at hbf
        exact bef_irr hbf
      · have := h3 a d z hd
        rw [e] at this
        exact bef_asym this hbf
    · exact bef_asym (hall a ha) hbf
  rcases k4 (pl a) (h2 a ha).1 (h2 a ha).2 with ⟨d, hd, e⟩ | ⟨e, hall⟩
  · rcases Nat.lt_trichotomy d a with z | z | z
    · have e2 := (hb d z).2
      have := h3 d a z ha
      rw [e2, e] at this
      exact absurd this bef_irr
    · rw [z] at hd e
      exact ⟨hd, e.symm⟩
    · have hac : a < c' := Nat.lt_trans z hd
      have := k3 a d z hd
      rw [e] at this
      exact absurd this (key hac)
  · have hac : a < c' := by omega
    exact absurd (hall a hac) (key hac)
theorem top_un {n : Nat} {P : Nat → Bool} {V : Nat → Nat} {k : Nat} {pl pl' : Nat → Nat} {c c' : Nat} (h : IsTop n P V k pl c) (h' : IsTop n P V k pl' c') : c = c' ∧ ∀ a, a < c → pl a = pl' a := by
  have A : ∀ a, (a < c → a < c' ∧ pl a = pl' a) ∧ (a < c' → a < c ∧ pl' a = pl a) := by
    intro a
    induction a using Nat.strongRecOn with
    | ind a ih =>
      refine ⟨fun ha => top_un1 h h' a ha (fun b hb => (ih b hb).1 (Nat.lt_trans hb ha)), fun ha => top_un1 h' h a ha (fun b hb => (ih b hb).2 (Nat.lt_trans hb ha))⟩
  refine ⟨?_, fun a ha => ((A a).1 ha).2⟩
  rcases Nat.lt_trichotomy c c' with z | z | z
  · have := ((A c).2 z).1
    omega
  · exact z
  · have := ((A c').1 z).1
    omega
theorem top_0 (P : Nat → Bool) (V : Nat → Nat) (k : Nat) (pl : Nat → Nat) : IsTop 0 P V k pl 0 :=
  ⟨Nat.zero_le _, fun a h => absurd h (Nat.not_lt_zero _), fun a b _ h => absurd h (Nat.not_lt_zero _), fun i h => absurd h (Nat.not_lt_zero _)⟩
theorem top_skip {n : Nat} {P : Nat → Bool} {V : Nat → Nat} {k : Nat} {pl : Nat → Nat} {c : Nat} (h : IsTop n P V k pl c) (hp : P n = false) : IsTop (n + 1) P V k pl c := by
  obtain ⟨h1, h2, h3, h4⟩ := h
  refine ⟨h1, fun a ha => ⟨Nat.lt_succ_of_lt (h2 a ha).1, (h2 a ha).2⟩, h3, fun i hi hpi => ?_⟩
  rcases Nat.lt_or_ge i n with z | z
  · exact h4 i z hpi
  · rw [show i = n by omega, hp] at hpi
    cases hpi
theorem off_ex (w : Nat → Nat) (wt : Nat) : ∀ c, ∃ q, q ≤ c ∧ (∀ i, q ≤ i → i < c → w i < wt) ∧ (0 < q → wt ≤ w (q - 1))
  | 0 => ⟨0, Nat.le_refl _, fun i _ h => absurd h (Nat.not_lt_zero _), fun h => absurd h (Nat.lt_irrefl _)⟩
  | c + 1 => by
    rcases Nat.lt_or_ge (w c) wt with z | z
    · obtain ⟨q, h1, h2, h3⟩ := off_ex w wt c
      refine ⟨q, by omega, fun i hi hc => ?_, h3⟩
      rcases Nat.lt_or_ge i c with y | y
      · exact h2 i hi y
      · rw [show i = c by omega]
        exact z
    · exact ⟨c + 1, Nat.le_refl _, fun i hi hc => by omega, fun _ => z⟩
theorem top_full {n : Nat} {P : Nat → Bool} {V : Nat → Nat} {k : Nat} {pl : Nat → Nat} {c q : Nat} (h : IsTop n P V k pl c) (hq1 : q ≤ c) (hq3 : 0 < q → V n ≤ V (pl (q - 1))) (hk : k ≤ q) : IsTop (n + 1) P V k pl c := by
  obtain ⟨h1, h2, h3, h4⟩ := h
  refine ⟨h1, fun a ha => ⟨Nat.lt_succ_of_lt (h2 a ha).1, (h2 a ha).2⟩, h3, fun i hi hpi => ?_⟩
  rcases Nat.lt_or_ge i n with z | z
  · exact h4 i z hpi
  · rw [show i = n by omega]
    refine Or.inr ⟨by omega, fun a ha => ?_⟩
    have h5 := (h2 a ha).1
    have h6 := hq3 (by omega)
    rcases Nat.lt_or_ge a (q - 1) with y | y
    · have h7 := h3 a (q - 1) y (by omega)
      unfold bef at h7 ⊢
      omega
    · rw [show q - 1 = a by omega] at h6
      unfold bef
      omega
def insP (f : Nat → Nat) (q c v : Nat) : Nat → Nat := va_up (shfR f q c) q v
theorem insP_lt {f : Nat → Nat} {q c v a : Nat} (h : a < q) : insP f q c v a = f a := by
  unfold insP va_up shfR
  rw [if_neg (by omega), if_neg (by omega)]
theorem insP_eq {f : Nat → Nat} {q c v : Nat} : insP f q c v q = v := by
  unfold insP va_up
  rw [if_pos rfl]
theorem insP_gt {f : Nat → Nat} {q c v a : Nat} (h : q < a) (h2 : a < c) : insP f q c v a = f (a - 1) := by
  unfold insP va_up shfR
  rw [if_neg (by omega), if_pos ⟨h, h2⟩]
theorem top_ins {n : Nat} {P : Nat → Bool} {V : Nat → Nat} {k : Nat} {pl : Nat → Nat} {c q : Nat} (h : IsTop n P V k pl c) (hp : P n = true) (hq1 : q ≤ c) (hq2 : ∀ i, q ≤ i → i < c → V (pl i) < V n) (hq3 : 0 < q → V n ≤ V (pl (q - 1))) (hk : q < k) : IsTop (n + 1) P V k (insP pl q (min (c + 1) k) n) (min (c + 1) k) := by
  obtain ⟨h1, h2, h3, h4⟩ := h
  have hlo : ∀ a, a < q → bef V (pl a) n := fun a ha => by
    have h5 := (h2 a (by omega)).1
    have h6 := hq3 (by omega)
    rcases Nat.lt_or_ge a (q - 1) with y | y
    · have h7 := h3 a (q - 1) y (by omega)
      unfold bef at h7 ⊢
      omega
    · rw [show q - 1 = a by omega] at h6
      unfold bef
      omega
  have hhi : ∀ a, q ≤ a → a < c → bef V n (pl a) := fun a h5 h6 => Or.inl (hq2 a h5 h6)
  refine ⟨Nat.min_le_right _ _, fun a ha => ?_, fun a b hab hb => ?_, fun i hi hpi => ?_⟩
  · rcases Nat.lt_trichotomy a q with z | z | z
    · rw [insP_lt z]
      exact ⟨Nat.lt_succ_of_lt (h2 a (by omega)).1, (h2 a (by omega)).2⟩
    · rw [z, insP_eq]
      exact ⟨Nat.lt_succ_self _, hp⟩
    · rw [insP_gt z ha]
      exact ⟨Nat.lt_succ_of_lt (h2 (a - 1) (by omega)).1, (h2 (a - 1) (by omega)).2⟩
  · rcases Nat.lt_trichotomy b q with z | z | z
    · rw [insP_lt z, insP_lt (by omega)]
      exact h3 a b hab (by omega)
    · rw [z, insP_eq, insP_lt (by omega)]
      exact hlo a (by omega)
    · rw [insP_gt z hb]
      rcases Nat.lt_trichotomy a q with y | y | y
      · rw [insP_lt y]
        exact h3 a (b - 1) (by omega) (by omega)
      · rw [y, insP_eq]
        exact hhi (b - 1) (by omega) (by omega)
      · rw [insP_gt y (by omega)]
        exact h3 (a - 1) (b - 1) (by omega) (by omega)
  · -- every pl b that stays is in its new place
    have hall : (∀ a, a < c → bef V (pl a) i) → c = k → ∀ a, a < min (c + 1) k → bef V (insP pl q (min (c + 1) k) n a) i := fun hb hck a ha => by
      rcases Nat.lt_trichotomy a q with y | y | y
      · rw [insP_lt y]
        exact hb a (by omega)
      · rw [y, insP_eq]
        exact bef_trans (hhi (c - 1) (by omega) (by omega)) (hb (c - 1) (by omega))
      · rw [insP_gt y ha]
        exact hb (a - 1) (by omega)
    rcases Nat.lt_or_ge i n with z | z
    · rcases h4 i z hpi with ⟨a, ha, e⟩ | ⟨e, hb⟩
      · rcases Nat.lt_or_ge a q with y | y
        · exact Or.inl ⟨a, by omega, by rw [insP_lt y]; exact e⟩
        · rcases Nat.lt_or_ge (a + 1) (min (c + 1) k) with x | x
          · exact Or.inl ⟨a + 1, x, by rw [insP_gt (by omega) x]; exact e⟩
          · refine Or.inr ⟨by omega, fun b hb => ?_⟩
            rw [← e]
            rcases Nat.lt_trichotomy b q with v | v | v
            · rw [insP_lt v]
              exact h3 b a (by omega) ha
            · rw [v, insP_eq]
              exact hhi a y ha
            · rw [insP_gt v hb]
              exact h3 (b - 1) a (by omega) ha
      · exact Or.inr ⟨by omega, hall hb e⟩
    · rw [show i = n by omega]
      exact Or.inl ⟨q, by omega, insP_eq⟩
theorem insP_map {f pl g : Nat → Nat} {q c n : Nat} (h : ∀ a, a < c → f a = g (pl a)) (c' : Nat) (hc : c' ≤ c + 1) (hq : q ≤ c) : ∀ a, a < c' → insP f q c' (g n) a = g (insP pl q c' n a) := fun a ha => by
  rcases Nat.lt_trichotomy a q with y | y | y
  · rw [insP_lt y, insP_lt y]
    exact h a (by omega)
  · rw [y, insP_eq, insP_eq]
  · rw [insP_gt y ha, insP_gt y ha]
    exact h (a - 1) (by omega)
theorem insP_le {f : Nat → Nat} {q c v M : Nat} (h : ∀ j, f j ≤ M) (hv : v ≤ M) : ∀ j, insP f q c v j ≤ M := fun j => by
  unfold insP va_up shfR
  split
  · exact hv
  · split
    · exact h _
    · exact h _
theorem top_ex (P : Nat → Bool) (V : Nat → Nat) (k : Nat) : ∀ n, ∃ pl c, IsTop n P V k pl c
  | 0 => ⟨fun _ => 0, 0, top_0 P V k _⟩
  | n + 1 => by
    obtain ⟨pl, c, h⟩ := top_ex P V k n
    cases hp : P n with
    | false => exact ⟨pl, c, top_skip h hp⟩
    | true =>
      obtain ⟨q, h1, h2, h3⟩ := off_ex (fun a => V (pl a)) (V n) c
      rcases Nat.lt_or_ge q k with z | z
      · exact ⟨_, _, top_ins h hp h1 h2 h3 z⟩
      · exact ⟨pl, c, top_full h h1 h3 z⟩
theorem top_congr {n : Nat} {P P' : Nat → Bool} {V V' : Nat → Nat} {k : Nat} {pl : Nat → Nat} {c : Nat} (hP : ∀ i, i < n → P i = P' i) (hV : ∀ i, i < n → V i = V' i) (h : IsTop n P V k pl c) : IsTop n P' V' k pl c := by
  obtain ⟨h1, h2, h3, h4⟩ := h
  have hb : ∀ i j, i < n → j < n → bef V i j → bef V' i j := fun i j hi hj z => by
    unfold bef at z ⊢
    rw [← hV i hi, ← hV j hj]
    exact z
  refine ⟨h1, fun a ha => ⟨(h2 a ha).1, by rw [← hP _ (h2 a ha).1]; exact (h2 a ha).2⟩, fun a b hab hbc => hb _ _ (h2 a (by omega)).1 (h2 b hbc).1 (h3 a b hab hbc), fun i hi hpi => ?_⟩
  rw [← hP i hi] at hpi
  rcases h4 i hi hpi with z | z
  · exact Or.inl z
  · exact Or.inr ⟨z.1, fun a ha => hb _ _ (h2 a ha).1 hi (z.2 a ha)⟩
theorem ltr_at {lx : LxT} {pl old : Nat → Nat} : ∀ c, (∀ i, i < c → lx.2.1 (pl i + 1) - lx.2.1 (pl i) ≤ 24) → ∀ a, a < c → ∀ j, j < lx.2.1 (pl a + 1) - lx.2.1 (pl a) → ltrF lx pl old c (a * 24 + j) = lx.1 (lx.2.1 (pl a) + j)
  | 0, _, a, ha, _, _ => absurd ha (Nat.not_lt_zero _)
  | c + 1, hz, a, ha, j, hj => by
    show va_cpy lx.1 (ltrF lx pl old c) (lx.2.1 (pl c)) (c * 24) (lx.2.1 (pl c + 1) - lx.2.1 (pl c)) (a * 24 + j) = _
    have hza := hz a ha
    rcases Nat.lt_or_ge a c with z | z
    · rw [pk_cpy_out (Or.inl (by omega))]
      exact ltr_at c (fun i hi => hz i (Nat.lt_succ_of_lt hi)) a z j hj
    · have e : a = c := by omega
      subst e
      rw [pk_cpy_in (by omega) (by omega)]
      exact cg (by omega)
/-- one offer: what the result holds of the terms below k becomes what it holds of those below k + 1 -/
def RsTop (lx : LxT) (P : Nat → Bool) (g : Nat → Nat) (k mo : Nat) (rs : (Nat → Nat) × (Nat → Nat) × (Nat → Nat) × (Nat → Nat) × (Nat → Nat) × Nat) : Prop :=
  IsTop k P lx.2.2.1 mo rs.1 rs.2.2.2.2.2 ∧ (∀ a, a < rs.2.2.2.2.2 → rs.2.1 a = lx.2.2.1 (rs.1 a)) ∧ (∀ a, a < rs.2.2.2.2.2 → rs.2.2.1 a = g (rs.1 a)) ∧ (∀ j, rs.2.1 j ≤ 1000000000000) ∧ (∀ j, rs.2.2.1 j ≤ 100) ∧ (∀ j, rs.2.2.2.1 j ≤ 24)
theorem rsTop_skip {lx : LxT} {P : Nat → Bool} {g : Nat → Nat} {k mo : Nat} {rs : (Nat → Nat) × (Nat → Nat) × (Nat → Nat) × (Nat → Nat) × (Nat → Nat) × Nat} (h : RsTop lx P g k mo rs) (hp : P k = false) : RsTop lx P g (k + 1) mo rs := ⟨top_skip h.1 hp, h.2⟩
theorem rsTop_off {lx : LxT} {P : Nat → Bool} {g : Nat → Nat} {k mo q : Nat} {rs : (Nat → Nat) × (Nat → Nat) × (Nat → Nat) × (Nat → Nat) × (Nat → Nat) × Nat} (h : RsTop lx P g k mo rs) (hp : P k = true) (hw : lx.2.2.1 k ≤ 1000000000000) (hg : g k ≤ 100) (hq1 : q ≤ rs.2.2.2.2.2) (hq2 : ∀ i, q ≤ i → i < rs.2.2.2.2.2 → rs.2.1 i < lx.2.2.1 k) (hq3 : 0 < q → lx.2.2.1 k ≤ rs.2.1 (q - 1)) : RsTop lx P g (k + 1) mo (bif decide (q < mo) then rsIns rs q k (lx.2.2.1 k) (g k) mo else rs) := by
  obtain ⟨h1, h2, h3, h4, h5, h6⟩ := h
  have k2 : ∀ i, q ≤ i → i < rs.2.2.2.2.2 → lx.2.2.1 (rs.1 i) < lx.2.2.1 k := fun i hi hc => by rw [← h2 i hc]; exact hq2 i hi hc
  have k3 : 0 < q → lx.2.2.1 k ≤ lx.2.2.1 (rs.1 (q - 1)) := fun z => by rw [← h2 (q - 1) (by omega)]; exact hq3 z
  rcases Nat.lt_or_ge q mo with z | z
  · rw [decide_eq_true z]
    exact ⟨top_ins h1 hp hq1 k2 k3 z, insP_map h2 _ (Nat.min_le_left _ _) hq1, insP_map h3 _ (Nat.min_le_left _ _) hq1, insP_le h4 hw, insP_le h5 hg, h6⟩
  · rw [decide_eq_false (by omega)]
    exact ⟨top_full h1 hq1 k3 z, h2, h3, h4, h5, h6⟩
def askOk (x y : Int32) : Prop := 1 ≤ x.toNatClampNeg ∧ x.toNatClampNeg ≤ 50 ∧ dOk y
/-- the result holds the terms pl 0 .. pl (c - 1), with their weights and their nearness g -/
def RsIs (lx : LxT) (g pl : Nat → Nat) (c : Nat) (rs : (Nat → Nat) × (Nat → Nat) × (Nat → Nat) × (Nat → Nat) × (Nat → Nat) × Nat) : Prop :=
  rs.2.2.2.2.2 = c ∧ ∀ a, a < c → rs.2.1 a = lx.2.2.1 (pl a) ∧ rs.2.2.1 a = g (pl a) ∧ rs.2.2.2.1 a = ZX lx (pl a) ∧ ∀ j, j < ZX lx (pl a) → rs.2.2.2.2.1 (a * 24 + j) = TX lx (pl a) j
theorem clamp_lt1 {x : Int32} (h : x < nI 1) : x.toNatClampNeg = 0 := by
  rw [Int32.lt_iff_toInt_lt] at h
  have h1 : (nI 1).toInt = 1 := nI_toInt (by decide)
  rw [h1] at h
  show x.toInt.toNat = 0
  omega
abbrev rmX5_ask : Room := { frames := 3, cells := 0, slots := 0, locals := 77 }
set_option maxHeartbeats 4000000 in
set_option maxRecDepth 100000 in
theorem mX5_ask (l : Launch) (D : va_G) (a : Nat → Nat) (cs : Nat → ClassId) (tp : (Nat → Int32) × Nat) (wd : (Nat → Nat) × Nat) (lx : (Nat → Nat) × (Nat → Nat) × (Nat → Nat) × Nat) (ro : Nat → Nat) (rs : (Nat → Nat) × (Nat → Nat) × (Nat → Nat) × (Nat → Nat) × (Nat → Nat) × Nat) (x : Int32) (y : Int32) (bb : Bool) (b3 : Bool) (pl : Nat → Nat) (cn : Nat) (ha : wInj a) (hI : LxI lx) (hT : tp.2 ≤ 400) (hW : WdB wd) (hR : RsB rs) (hnr : ∀ j, rs.2.2.1 j ≤ 100) (hbb : bb = true ↔ goodT tp) (hb3 : b3 = true ↔ askOk x y) (htop : (bb && b3) = true → IsTop lx.2.2.2 (fun i => decide (nrF (qF tp) tp.2 (TX lx i) (ZX lx i) ≤ y.toNatClampNeg)) lx.2.2.1 x.toNatClampNeg pl cn) : Met l yX5_ask wsX5_ask rmX5_ask (wdP D vwCl (wX a cs tp wd lx ro rs) (tyX cs) [.ref (a 0), .int (x), .int (y)]) (wrQ (some (.int (bif (bb && b3) then nI cn else (-1)))) (fun H => ∃ wd2 ro2 rs2, WdB wd2 ∧ RsB rs2 ∧ (∀ j, rs2.2.2.1 j ≤ 100) ∧ ((bb && b3) = true → RsIs lx (fun i => nrF (qF tp) tp.2 (TX lx i) (ZX lx i)) pl cn rs2) ∧ ((bb && b3) = false → rs2 = rs) ∧ va_P D vwCl (wX a cs (tp.1, 0) wd2 lx ro2 rs2) H) (inX a)) 0 0 (inX a) := by
  obtain ⟨hR1, hR2, hR3⟩ := id hR
  refine nz_metWi (by decide) rfl (Nat.le_of_ble_eq_true rfl) rfl ?_
  intro p e s m args below meth c Q hx hb hml hts hown hP hK hret ls hl
  have hl : lv_has ls 5 [(0, .ref (a 0)), (1, .int (x)), (2, .int (y))] := hl
  have hown : s.vm.findClass RX5 = some m.cls := hown
  have hinX5 : ∀ w ∈ u_ws RX5 TX5 5, w ∈ wsX5_ask := by decide +kernel
  have hinX2 : ∀ w ∈ u_ws RX2 TX2 6, w ∈ wsX5_ask := by decide +kernel
  have hinX0 : ∀ w ∈ u_ws RX0 TX0 4, w ∈ wsX5_ask := by decide +kernel
  have hS : va_S (inX a) s.heap s.heap [] := va_S.rf
  obtain ⟨H, hH⟩ : ∃ H, H = s.heap := ⟨_, rfl⟩
  obtain ⟨locs, hlocs⟩ : ∃ locs : List Loc, locs = [] := ⟨_, rfl⟩
  have hP : va_P D vwCl (wX a cs tp wd lx ro rs) H := hH ▸ hP
  have hS : va_S (inX a) s.heap H locs := by rw [hH, hlocs]; exact va_S.rf
  suffices hgo : W p l e rmX5_ask s m args below meth c H locs 0 0 Q (F0 m 0 ls []) by rw [hH, hlocs] at hgo; exact hgo
  clear hH hlocs
  refine lv_aload_n hx hb dX5_ask_0 rfl (lv_at hl 0 rfl) ?_
  refine nz_callW (va_runV (As := []) (rest := []) ⟨hx, hb, hml, hown, hts⟩ (mX5_takeLetters l D a cs tp wd lx ro rs bb ha hT hW hbb) (cwV 0 hts gX5_ask_X5_takeLetters rfl rfl rfl (by decide +kernel) ⟨Nat.le_of_ble_eq_true rfl, Nat.le_of_ble_eq_true rfl⟩) (nz_preV (ci := 5) (q0 := 0) hK hP rfl rfl) rfl rfl hl.1 rfl (lv_room (Nat.le_of_ble_eq_true rfl)) dX5_ask_1 ⟨Nat.zero_le _, Nat.zero_le _⟩) hS (fun _ h => h) (fun H locs hP _ _ hS => ?_)
  obtain ⟨wd2_1, hwd2, hP⟩ := hP
  refine nz_ifeqB (tgt := 27) hx hb dX5_ask_4 (by decide) (fun c_4 => ?_) (fun c_4 => ?_)
  · refine lv_iconst (v := (-1)) hx hb dX5_ask_27 (by decide +kernel) ?_
    have hz : (bb && b3) = false := by
      cases hbb9 : bb with
      | false => rfl
      | true =>
        cases hb39 : b3 with
        | false => rfl
        | true =>
          have h9 := hb3.mp hb39
          first | exact absurd (c_4.symm.trans hbb9) (by decide) | exact absurd h9 hno
    rw [hz] at hret
    exact hret 28 ls H locs dX5_ask_28 ⟨_, _, _, hwd2.1, hR, hnr, (fun h => by cases h), fun _ => rfl, hP⟩ hS
  · refine lv_iload_n hx hb dX5_ask_7 rfl (lv_at hl 1 rfl) ?_
    refine lv_iconst (v := nI 1) hx hb dX5_ask_8 (by decide +kernel) ?_
    refine lv_icmp_lt (tgt := 27) hx hb dX5_ask_9 (by decide) (fun c_9 => ?_) (fun c_9 => ?_)
    · have hno : ¬ askOk x y := fun h => by have h1 := h.1; have h2 : x.toNatClampNeg = 0 := clamp_lt1 c_9; omega
      refine lv_iconst (v := (-1)) hx hb dX5_ask_27 (by decide +kernel) ?_
      have hz : (bb && b3) = false := by
        cases hbb9 : bb with
        | false => rfl
        | true =>
          cases hb39 : b3 with
          | false => rfl
          | true =>
            have h9 := hb3.mp hb39
            first | exact absurd (c_4.symm.trans hbb9) (by decide) | exact absurd h9 hno
      rw [hz] at hret
      exact hret 28 ls H locs dX5_ask_28 ⟨_, _, _, hwd2.1, hR, hnr, (fun h => by cases h), fun _ => rfl, hP⟩ hS
    · obtain ⟨k1, hk1, rfl⟩ := nI_of (x := x) (fun z => c_9 (Int32.lt_trans z (by decide +kernel)))
      have hk10 : 1 ≤ k1 := Nat.pos_of_ne_zero (fun z => c_9 (by rw [z]; decide +kernel))
      refine lv_iload_n hx hb dX5_ask_12 rfl (lv_at hl 1 rfl) ?_
      refine lv_bipush (v := nI 50) hx hb dX5_ask_13 (by decide +kernel) ?_
      refine nz_cgt (a := k1) (b := 50) (tgt := 27) hx hb dX5_ask_15 (by decide) (by omega) (by omega) (fun c_15 => ?_) (fun c_15 => ?_)
      · have hno : ¬ askOk (nI k1) y := fun h => by have h1 := h.2.1; rw [nI_clamp hk1] at h1; omega
        refine lv_iconst (v := (-1)) hx hb dX5_ask_27 (by decide +kernel) ?_
        have hz : (bb && b3) = false := by
          cases hbb9 : bb with
          | false => rfl
          | true =>
            cases hb39 : b3 with
            | false => rfl
            | true =>
              have h9 := hb3.mp hb39
              first | exact absurd (c_4.symm.trans hbb9) (by decide) | exact absurd h9 hno
        rw [hz] at hret
        exact hret 28 ls H locs dX5_ask_28 ⟨_, _, _, hwd2.1, hR, hnr, (fun h => by cases h), fun _ => rfl, hP⟩ hS
      · refine lv_iload_n hx hb dX5_ask_18 rfl (lv_at hl 2 rfl) ?_
        refine lv_if_lt (tgt := 27) hx hb dX5_ask_19 (by decide) (fun c_19 => ?_) (fun c_19 => ?_)
        · have hno : ¬ askOk (nI k1) y := fun h => h.2.2.1 c_19
          refine lv_iconst (v := (-1)) hx hb dX5_ask_27 (by decide +kernel) ?_
          have hz : (bb && b3) = false := by
            cases hbb9 : bb with
            | false => rfl
            | true =>
              cases hb39 : b3 with
              | false => rfl
              | true =>
                have h9 := hb3.mp hb39
                first | exact absurd (c_4.symm.trans hbb9) (by decide) | exact absurd h9 hno
          rw [hz] at hret
          exact hret 28 ls H locs dX5_ask_28 ⟨_, _, _, hwd2.1, hR, hnr, (fun h => by cases h), fun _ => rfl, hP⟩ hS
        · obtain ⟨d1, hd1, rfl⟩ := nI_of c_19
          refine lv_iload_n hx hb dX5_ask_22 rfl (lv_at hl 2 rfl) ?_
          refine lv_iconst (v := nI 2) hx hb dX5_ask_23 (by decide +kernel) ?_
          refine nz_cle (a := d1) (b := 2) (tgt := 29) hx hb dX5_ask_24 (by decide) (by omega) (by omega) (fun c_24 => ?_) (fun c_24 => ?_)
          · refine lv_aload_n hx hb dX5_ask_29 rfl (lv_at hl 0 rfl) ?_
            refine va_get (D := D) (ci := 5) (v := .ref (a 5)) (C := RX5) (T := TX5) (N := 5) hx hb hts hinX5 hown hK hP 0 rfl rfl 4 (by decide) (hts (.fieldLink RX5 40 "TypoSuggester" "result" "LTypoSuggester$Result;") (by decide +kernel)) (fun _ h9 => h9) rfl dX5_ask_30 ?_
            refine lv_iconst (v := nI 0) hx hb dX5_ask_33 (by decide +kernel) ?_
            refine nz_put (D := D) (ci := 2) (v := .int (nI (0))) (ty := .int) (ws' := wX a cs (tp.1, 0) wd2_1 lx ro (rs.1, rs.2.1, rs.2.2.1, rs.2.2.2.1, rs.2.2.2.2.1, 0)) (C := RX2) (T := TX2) (N := 6) hx hb hts hinX2 tyX2 tyX2_ok nmX2 hown hK hP (wX_D ha) hS 5 rfl rfl 5 (by decide) (hts (.fieldLink RX5 104 "TypoSuggester$Result" "count" "I") (by decide +kernel)) (fun _ h9 => h9) rfl (by decide +kernel) rfl rfl (Nat.le_of_ble_eq_true rfl) dX5_ask_34 rfl (fun H locs hP hS => ?_)
            refine lv_iconst (v := nI 0) hx hb dX5_ask_37 (by decide +kernel) ?_
            refine lv_istore_n (lv' := [(3, .int (nI (0))), (0, .ref (a 0)), (1, .int (nI (k1))), (2, .int (nI (d1)))]) hx hb dX5_ask_38 rfl hl (by decide) rfl (fun ls hl => ?_)
            have loop : ∀ (fuel : Nat) (k : Nat) (ro2 : Nat → Nat) (rs2 : (Nat → Nat) × (Nat → Nat) × (Nat → Nat) × (Nat → Nat) × (Nat → Nat) × Nat), (k ≤ lx.2.2.2) → (RsTop lx (fun i => decide (nrF wd2_1.1 wd2_1.2 (TX lx i) (ZX lx i) ≤ d1)) (fun i => nrF wd2_1.1 wd2_1.2 (TX lx i) (ZX lx i)) k k1 rs2) → lx.2.2.2 - k < fuel → ∀ (H : Heap) (locs : List Loc), va_P D vwCl (wX a cs (tp.1, 0) wd2_1 lx ro2 rs2) H → va_S (inX a) s.heap H locs → ∀ ls : Array Slot, lv_has ls 5 [(0, .ref (a 0)), (1, .int (nI (k1))), (2, .int (nI (d1))), (3, .int (nI (k)))] → W p l e rmX5_ask s m args below meth c H locs 0 0 Q (F0 m 39 ls []) := by
              intro fuel
              induction fuel with
              | zero => intro k ro2 rs2 hk htk hf; exact absurd hf (Nat.not_lt_zero _)
              | succ fuel ih =>
                intro k ro2 rs2 hk htk hf H locs hP hS ls hl
                have hlc := hI.1.1
                have hck : rs2.2.2.2.2.2 ≤ k1 := htk.1.1
                refine lv_iload_n hx hb dX5_ask_39 rfl (lv_at hl 3 rfl) ?_
                refine lv_aload_n hx hb dX5_ask_40 rfl (lv_at hl 0 rfl) ?_
                refine va_get (D := D) (ci := 5) (v := .ref (a 3)) (C := RX5) (T := TX5) (N := 5) hx hb hts hinX5 hown hK hP 0 rfl rfl 2 (by decide) (hts (.fieldLink RX5 26 "TypoSuggester" "lexicon" "LTypoSuggester$Lexicon;") (by decide +kernel)) (fun _ h9 => h9) rfl dX5_ask_41 ?_
                refine va_get (D := D) (ci := 0) (v := .int (nI (lx.2.2.2))) (C := RX0) (T := TX0) (N := 4) hx hb hts hinX0 hown hK hP 3 rfl rfl 3 (by decide) (hts (.fieldLink RX5 107 "TypoSuggester$Lexicon" "count" "I") (by decide +kernel)) (fun _ h9 => h9) rfl dX5_ask_44 ?_
                refine nz_cge (a := k) (b := lx.2.2.2) (tgt := 101) hx hb dX5_ask_47 (by decide) (by omega) (by omega) (fun c_47 => ?_) (fun c_47 => ?_)
                · refine lv_aload_n hx hb dX5_ask_101 rfl (lv_at hl 0 rfl) ?_
                  refine va_get (D := D) (ci := 5) (v := .ref (a 5)) (C := RX5) (T := TX5) (N := 5) hx hb hts hinX5 hown hK hP 0 rfl rfl 4 (by decide) (hts (.fieldLink RX5 40 "TypoSuggester" "result" "LTypoSuggester$Result;") (by decide +kernel)) (fun _ h9 => h9) rfl dX5_ask_102 ?_
                  refine lv_aload_n hx hb dX5_ask_105 rfl (lv_at hl 0 rfl) ?_
                  refine va_get (D := D) (ci := 5) (v := .ref (a 3)) (C := RX5) (T := TX5) (N := 5) hx hb hts hinX5 hown hK hP 0 rfl rfl 2 (by decide) (hts (.fieldLink RX5 26 "TypoSuggester" "lexicon" "LTypoSuggester$Lexicon;") (by decide +kernel)) (fun _ h9 => h9) rfl dX5_ask_106 ?_
                  rw [show k = lx.2.2.2 by omega] at htk
                  have hz24 : ∀ i, i < lx.2.2.2 → lx.2.1 (i + 1) - lx.2.1 i ≤ 24 := fun i hi => by have := (hI.2.2.1 i hi).2; omega
                  refine nz_callW (va_runV (As := [.ref (a 3)]) (rest := []) ⟨hx, hb, hml, hown, hts⟩ (mX2_keepLetters l D a cs (tp.1, 0) wd2_1 lx ro2 rs2 ha hI.1 (by omega) (fun i hi => (htk.1.2.1 i hi).1) hz24) (cwV 1 hts gX5_ask_X2_keepLetters rfl rfl rfl (by decide +kernel) ⟨Nat.le_of_ble_eq_true rfl, Nat.le_of_ble_eq_true rfl⟩) (nz_preV (ci := 2) (q0 := 5) hK hP rfl rfl) rfl rfl hl.1 rfl (lv_room (Nat.le_of_ble_eq_true rfl)) dX5_ask_109 ⟨Nat.zero_le _, Nat.zero_le _⟩) hS (fun _ h => h) (fun H locs hP _ _ hS => ?_)
                  refine lv_aload_n hx hb dX5_ask_112 rfl (lv_at hl 0 rfl) ?_
                  refine va_get (D := D) (ci := 5) (v := .ref (a 5)) (C := RX5) (T := TX5) (N := 5) hx hb hts hinX5 hown hK hP 0 rfl rfl 4 (by decide) (hts (.fieldLink RX5 40 "TypoSuggester" "result" "LTypoSuggester$Result;") (by decide +kernel)) (fun _ h9 => h9) rfl dX5_ask_113 ?_
                  refine va_get (D := D) (ci := 2) (v := .int (nI (rs2.2.2.2.2.2))) (C := RX2) (T := TX2) (N := 6) hx hb hts hinX2 hown hK hP 5 rfl rfl 5 (by decide) (hts (.fieldLink RX5 104 "TypoSuggester$Result" "count" "I") (by decide +kernel)) (fun _ h9 => h9) rfl dX5_ask_116 ?_
                  have hb39 : b3 = true := hb3.mpr ⟨by rw [nI_clamp hk1]; omega, by rw [nI_clamp hk1]; omega, nI_pos hd1, by rw [nI_clamp hd1]; exact c_24⟩
                  subst hb39
                  subst c_4
                  have htp := htop rfl
                  rw [nI_clamp hk1, nI_clamp hd1] at htp
                  have hgg : ∀ i, nrF wd2_1.1 wd2_1.2 (TX lx i) (ZX lx i) = nrF (qF tp) tp.2 (TX lx i) (ZX lx i) := fun i => by rw [(hwd2.2 rfl).1, nrF_congr (hwd2.2 rfl).2 (fun _ _ => rfl)]
                  have htk9 := top_congr (P' := (fun i => decide (nrF (qF tp) tp.2 (TX lx i) (ZX lx i) ≤ d1))) (fun i _ => by show decide _ = decide _; rw [hgg i]) (fun _ _ => rfl) htk.1
                  obtain ⟨ec, epl⟩ := top_un htk9 htp
                  have hcn5 : rs2.2.2.2.2.2 ≤ 50 := by omega
                  rw [show (nI rs2.2.2.2.2.2 : Int32) = nI cn by rw [ec]]
                  refine hret 119 ls H locs dX5_ask_119 ⟨_, _, (rs2.1, rs2.2.1, rs2.2.2.1, mixR (fun x => lx.2.1 (rs2.1 x + 1) - lx.2.1 (rs2.1 x)) rs2.2.2.2.1 rs2.2.2.2.2.2, ltrF lx rs2.1 rs2.2.2.2.2.1 rs2.2.2.2.2.2, rs2.2.2.2.2.2), hwd2.1, ⟨hcn5, htk.2.2.2.1, fun j => ?_⟩, htk.2.2.2.2.1, fun _ => ⟨ec, fun b hb9 => ?_⟩, (fun h => by cases h), hP⟩ hS
                  · show mixR (fun x => lx.2.1 (rs2.1 x + 1) - lx.2.1 (rs2.1 x)) rs2.2.2.2.1 rs2.2.2.2.2.2 j ≤ 24
                    unfold mixR
                    split
                    · rename_i hj9
                      exact hz24 _ (htk.1.2.1 j hj9).1
                    · exact htk.2.2.2.2.2 j
                  · rw [← ec] at hb9
                    rw [← epl b hb9]
                    refine ⟨htk.2.1 b hb9, ?_, ?_, fun j hj => ?_⟩
                    · show rs2.2.2.1 b = nrF (qF tp) tp.2 (TX lx (rs2.1 b)) (ZX lx (rs2.1 b))
                      rw [← hgg]
                      exact htk.2.2.1 b hb9
                    · show mixR (fun x => lx.2.1 (rs2.1 x + 1) - lx.2.1 (rs2.1 x)) rs2.2.2.2.1 rs2.2.2.2.2.2 b = _
                      rw [mixR_lt hb9]
                    · exact ltr_at rs2.2.2.2.2.2 (fun i hi => hz24 _ (htk.1.2.1 i hi).1) b hb9 j hj
                · refine lv_aload_n hx hb dX5_ask_50 rfl (lv_at hl 0 rfl) ?_
                  refine va_get (D := D) (ci := 5) (v := .ref (a 4)) (C := RX5) (T := TX5) (N := 5) hx hb hts hinX5 hown hK hP 0 rfl rfl 3 (by decide) (hts (.fieldLink RX5 33 "TypoSuggester" "measure" "LTypoSuggester$Measure;") (by decide +kernel)) (fun _ h9 => h9) rfl dX5_ask_51 ?_
                  refine lv_aload_n hx hb dX5_ask_54 rfl (lv_at hl 0 rfl) ?_
                  refine va_get (D := D) (ci := 5) (v := .ref (a 2)) (C := RX5) (T := TX5) (N := 5) hx hb hts hinX5 hown hK hP 0 rfl rfl 1 (by decide) (hts (.fieldLink RX5 19 "TypoSuggester" "word" "LTypoSuggester$Word;") (by decide +kernel)) (fun _ h9 => h9) rfl dX5_ask_55 ?_
                  refine lv_aload_n hx hb dX5_ask_58 rfl (lv_at hl 0 rfl) ?_
                  refine va_get (D := D) (ci := 5) (v := .ref (a 3)) (C := RX5) (T := TX5) (N := 5) hx hb hts hinX5 hown hK hP 0 rfl rfl 2 (by decide) (hts (.fieldLink RX5 26 "TypoSuggester" "lexicon" "LTypoSuggester$Lexicon;") (by decide +kernel)) (fun _ h9 => h9) rfl dX5_ask_59 ?_
                  refine lv_iload_n hx hb dX5_ask_62 rfl (lv_at hl 3 rfl) ?_
                  refine lv_iload_n hx hb dX5_ask_63 rfl (lv_at hl 2 rfl) ?_
                  refine nz_callW (va_runV (As := [.ref (a 2), .ref (a 3), .int (nI (k)), .int (nI (d1))]) (rest := []) ⟨hx, hb, hml, hown, hts⟩ (mX1_nearness l D a cs (tp.1, 0) wd2_1 lx ro2 rs2 k d1 ha hI.1 hwd2.1 (by omega) (by omega) (by have := (hI.2.2.1 k (by omega)).2; omega)) (cwV 4 hts gX5_ask_X1_nearness rfl rfl rfl (by decide +kernel) ⟨Nat.le_of_ble_eq_true rfl, Nat.le_of_ble_eq_true rfl⟩) (nz_preV (ci := 1) (q0 := 4) hK hP rfl rfl) rfl rfl hl.1 rfl (lv_room (Nat.le_of_ble_eq_true rfl)) dX5_ask_64 ⟨Nat.zero_le _, Nat.zero_le _⟩) hS (fun _ h => h) (fun H locs hP _ _ hS => ?_)
                  obtain ⟨ro2_2, hP⟩ := hP
                  refine lv_istore (lv' := [(4, .int (nI (min (d1 + 1) (nrF wd2_1.1 wd2_1.2 (TX lx k) (ZX lx k))))), (0, .ref (a 0)), (1, .int (nI (k1))), (2, .int (nI (d1))), (3, .int (nI (k)))]) hx hb dX5_ask_67 hl (by decide) rfl (fun ls hl => ?_)
                  refine lv_iload hx hb dX5_ask_69 (lv_at hl 0 rfl) ?_
                  refine lv_iload_n hx hb dX5_ask_71 rfl (lv_at hl 3 rfl) ?_
                  refine nz_cgt (a := min (d1 + 1) (nrF wd2_1.1 wd2_1.2 (TX lx k) (ZX lx k))) (b := d1) (tgt := 95) hx hb dX5_ask_72 (by decide) (by omega) (by omega) (fun c_72 => ?_) (fun c_72 => ?_)
                  · have hst9 : RsTop lx (fun i => decide (nrF wd2_1.1 wd2_1.2 (TX lx i) (ZX lx i) ≤ d1)) (fun i => nrF wd2_1.1 wd2_1.2 (TX lx i) (ZX lx i)) (k + 1) k1 rs2 := rsTop_skip htk (by rw [decide_eq_false_iff_not]; omega)
                    refine lv_iinc (v := nI (k + 1)) (lv' := [(3, .int (nI (k + 1))), (4, .int (nI (min (d1 + 1) (nrF wd2_1.1 wd2_1.2 (TX lx k) (ZX lx k))))), (0, .ref (a 0)), (1, .int (nI (k1))), (2, .int (nI (d1)))]) hx hb dX5_ask_95 hl (k := 4) rfl (nz_inc1 _) (by decide) rfl (fun ls hl => ?_)
                    refine lv_goto (tgt := 39) hx hb dX5_ask_98 (by decide) ?_
                    exact ih (k + 1) ro2_2 rs2 (by omega) hst9 (by omega) H locs hP hS ls (lv_sub hl [2, 3, 4, 0] rfl)
                  · have hg9 : nrF wd2_1.1 wd2_1.2 (TX lx k) (ZX lx k) ≤ d1 := by omega
                    have e_3 : (nI (min (d1 + 1) (nrF wd2_1.1 wd2_1.2 (TX lx k) (ZX lx k)))) = (nI (nrF wd2_1.1 wd2_1.2 (TX lx k) (ZX lx k))) := by congr 1; omega
                    have hl : lv_has ls 5 [(4, .int (nI (nrF wd2_1.1 wd2_1.2 (TX lx k) (ZX lx k)))), (0, .ref (a 0)), (1, .int (nI (k1))), (2, .int (nI (d1))), (3, .int (nI (k)))] := by rw [← e_3]; exact hl
                    obtain ⟨q, hq1, hq2, hq3⟩ := off_ex rs2.2.1 (lx.2.2.1 k) rs2.2.2.2.2.2
                    refine lv_aload_n hx hb dX5_ask_75 rfl (lv_at hl 1 rfl) ?_
                    refine va_get (D := D) (ci := 5) (v := .ref (a 5)) (C := RX5) (T := TX5) (N := 5) hx hb hts hinX5 hown hK hP 0 rfl rfl 4 (by decide) (hts (.fieldLink RX5 40 "TypoSuggester" "result" "LTypoSuggester$Result;") (by decide +kernel)) (fun _ h9 => h9) rfl dX5_ask_76 ?_
                    refine lv_iload_n hx hb dX5_ask_79 rfl (lv_at hl 4 rfl) ?_
                    refine lv_aload_n hx hb dX5_ask_80 rfl (lv_at hl 1 rfl) ?_
                    refine va_get (D := D) (ci := 5) (v := .ref (a 3)) (C := RX5) (T := TX5) (N := 5) hx hb hts hinX5 hown hK hP 0 rfl rfl 2 (by decide) (hts (.fieldLink RX5 26 "TypoSuggester" "lexicon" "LTypoSuggester$Lexicon;") (by decide +kernel)) (fun _ h9 => h9) rfl dX5_ask_81 ?_
                    refine va_get (D := D) (ci := 0) (v := .ref (a 10)) (C := RX0) (T := TX0) (N := 4) hx hb hts hinX0 hown hK hP 3 rfl rfl 2 (by decide) (hts (.fieldLink RX5 84 "TypoSuggester$Lexicon" "weights" "[J") (by decide +kernel)) (fun _ h9 => h9) rfl dX5_ask_84 ?_
                    refine lv_iload_n hx hb dX5_ask_87 rfl (lv_at hl 4 rfl) ?_
                    refine nz_lald (f := lx.2.2.1) (k := k) hx hb hK hP 10 2 rfl rfl (by omega) (by decide) dX5_ask_88 ?_
                    refine lv_iload hx hb dX5_ask_89 (lv_at hl 0 rfl) ?_
                    refine lv_iload_n hx hb dX5_ask_91 rfl (lv_at hl 2 rfl) ?_
                    refine nz_callW (va_runV (As := [.int (nI (k)), .long (lN (lx.2.2.1 k)), .int (nI (nrF wd2_1.1 wd2_1.2 (TX lx k) (ZX lx k))), .int (nI (k1))]) (rest := []) ⟨hx, hb, hml, hown, hts⟩ (mX2_offer l D a cs (tp.1, 0) wd2_1 lx ro2_2 rs2 k (lx.2.2.1 k) (nrF wd2_1.1 wd2_1.2 (TX lx k) (ZX lx k)) k1 q (decide (q < k1)) ha (by omega) hck htk.2.2.2.1 (hI.1.2.2.2.2 k) hq1 hq2 hq3 decide_eq_true_iff) (cwV 4 hts gX5_ask_X2_offer rfl rfl rfl (by decide +kernel) ⟨Nat.le_of_ble_eq_true rfl, Nat.le_of_ble_eq_true rfl⟩) (nz_preV (ci := 2) (q0 := 5) hK hP rfl rfl) rfl rfl hl.1 rfl (lv_room (Nat.le_of_ble_eq_true rfl)) dX5_ask_92 ⟨Nat.zero_le _, Nat.zero_le _⟩) hS (fun _ h => h) (fun H locs hP _ _ hS => ?_)
                    have hst9 := rsTop_off (q := q) htk (by rw [decide_eq_true_iff]; exact hg9) (hI.1.2.2.2.2 k) (by show nrF wd2_1.1 wd2_1.2 (TX lx k) (ZX lx k) ≤ 100; omega) hq1 hq2 hq3
                    refine lv_iinc (v := nI (k + 1)) (lv' := [(3, .int (nI (k + 1))), (4, .int (nI (nrF wd2_1.1 wd2_1.2 (TX lx k) (ZX lx k)))), (0, .ref (a 0)), (1, .int (nI (k1))), (2, .int (nI (d1)))]) hx hb dX5_ask_95 hl (k := 4) rfl (nz_inc1 _) (by decide) rfl (fun ls hl => ?_)
                    refine lv_goto (tgt := 39) hx hb dX5_ask_98 (by decide) ?_
                    exact ih (k + 1) ro2_2 (bif (decide (q < k1)) then rsIns rs2 q k (lx.2.2.1 k) (nrF wd2_1.1 wd2_1.2 (TX lx k) (ZX lx k)) k1 else rs2) (by omega) hst9 (by omega) H locs hP hS ls (lv_sub hl [2, 3, 4, 0] rfl)
            exact loop (lx.2.2.2 - 0 + 1) 0 ro ((rs.1, rs.2.1, rs.2.2.1, rs.2.2.2.1, rs.2.2.2.2.1, 0)) (Nat.zero_le _) (⟨top_0 _ _ _ _, fun a h => absurd h (Nat.not_lt_zero _), fun a h => absurd h (Nat.not_lt_zero _), hR2, hnr, hR3⟩) (Nat.lt_succ_self _) H locs hP hS ls (lv_sub hl [1, 2, 3, 0] rfl)
          · have hno : ¬ askOk (nI k1) (nI d1) := fun h => by have h1 := h.2.2.2; rw [nI_clamp hd1] at h1; omega
            refine lv_iconst (v := (-1)) hx hb dX5_ask_27 (by decide +kernel) ?_
            have hz : (bb && b3) = false := by
              cases hbb9 : bb with
              | false => rfl
              | true =>
                cases hb39 : b3 with
                | false => rfl
                | true =>
                  have h9 := hb3.mp hb39
                  first | exact absurd (c_4.symm.trans hbb9) (by decide) | exact absurd h9 hno
            rw [hz] at hret
            exact hret 28 ls H locs dX5_ask_28 ⟨_, _, _, hwd2.1, hR, hnr, (fun h => by cases h), fun _ => rfl, hP⟩ hS
