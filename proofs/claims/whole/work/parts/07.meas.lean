/-! The Measure: one row of the table of distances after the other. -/
def stpR (q : Nat → Nat) (c : Nat) (f : Nat → Nat) : Nat → Nat
  | 0 => f 0 + 1
  | j + 1 => min (f j + (if q j = c then 0 else 1)) (min (stpR q c f j) (f (j + 1)) + 1)
def minR (g : Nat → Nat) : Nat → Nat
  | 0 => g 0
  | k + 1 => min (minR g k) (g (k + 1))
def mixR (g f : Nat → Nat) (n : Nat) : Nat → Nat := fun k => if k < n then g k else f k
def rowsF (q t : Nat → Nat) : Nat → Nat → Nat
  | 0 => fun i => i
  | j + 1 => stpR q (t j) (rowsF q t j)
/-- the nearness of a row t of z letters to the query q of n letters -/
def nrF (q : Nat → Nat) (n : Nat) (t : Nat → Nat) (z : Nat) : Nat := minR (fun j => rowsF q t j n) z
theorem mixR_ge {g f : Nat → Nat} {n k : Nat} (h : n ≤ k) : mixR g f n k = f k := if_neg (by omega)
theorem mixR_lt {g f : Nat → Nat} {n k : Nat} (h : k < n) : mixR g f n k = g k := if_pos h
theorem mixR_0 (g f : Nat → Nat) : mixR g f 0 = f := by
  funext k
  exact mixR_ge (Nat.zero_le _)
theorem mixR_step (g f : Nat → Nat) (n : Nat) : va_up (mixR g f n) n (g n) = mixR g f (n + 1) := by
  funext k
  unfold va_up mixR
  by_cases e : k = n
  · rw [if_pos e, if_pos (by omega), e]
  · rw [if_neg e]
    by_cases q : k < n
    · rw [if_pos q, if_pos (by omega)]
    · rw [if_neg q, if_neg (by omega)]
theorem stpR_le (q : Nat → Nat) (c : Nat) (f : Nat → Nat) : ∀ j, stpR q c f j ≤ f j + 1
  | 0 => Nat.le_refl _
  | j + 1 => by unfold stpR; omega
theorem stpR_congr {q q' : Nat → Nat} {c : Nat} {f f' : Nat → Nat} {n : Nat} (hq : ∀ k, k < n → q k = q' k) (h : ∀ k, k ≤ n → f k = f' k) : ∀ j, j ≤ n → stpR q c f j = stpR q' c f' j
  | 0, hj => by unfold stpR; rw [h 0 hj]
  | j + 1, hj => by
    unfold stpR
    rw [h j (by omega), h (j + 1) hj, hq j (by omega), stpR_congr hq h j (by omega)]
theorem minR_le (g : Nat → Nat) : ∀ n k, k ≤ n → minR g n ≤ g k
  | 0, k, h => by rw [show k = 0 by omega]; exact Nat.le_refl _
  | n + 1, k, h => by
    unfold minR
    rcases Nat.lt_or_ge k (n + 1) with z | z
    · have := minR_le g n k (by omega)
      omega
    · rw [show k = n + 1 by omega]
      omega
theorem minR_ge {g : Nat → Nat} {m : Nat} : ∀ n, (∀ k, k ≤ n → m ≤ g k) → m ≤ minR g n
  | 0, h => h 0 (Nat.le_refl _)
  | n + 1, h => by
    unfold minR
    have h1 := minR_ge n (fun k hk => h k (by omega))
    have h2 := h (n + 1) (Nat.le_refl _)
    omega
theorem minR_congr {g g' : Nat → Nat} : ∀ n, (∀ k, k ≤ n → g k = g' k) → minR g n = minR g' n
  | 0, h => h 0 (Nat.le_refl _)
  | n + 1, h => by
    unfold minR
    rw [minR_congr n (fun k hk => h k (by omega)), h (n + 1) (Nat.le_refl _)]
theorem rows_le (q t : Nat → Nat) : ∀ j k, rowsF q t j k ≤ k + j
  | 0, k => Nat.le_refl _
  | j + 1, k => by
    have h1 := stpR_le q (t j) (rowsF q t j) k
    have h2 := rows_le q t j k
    show stpR q (t j) (rowsF q t j) k ≤ _
    omega
theorem stp_lo {q : Nat → Nat} {c m n : Nat} {f : Nat → Nat} (h : ∀ k, k ≤ n → m ≤ f k) : ∀ j, j ≤ n → m ≤ stpR q c f j
  | 0, hj => by have := h 0 hj; unfold stpR; omega
  | j + 1, hj => by
    have h1 := stp_lo (q := q) (c := c) h j (by omega)
    have h2 := h j (by omega)
    have h3 := h (j + 1) hj
    unfold stpR
    omega
theorem rows_lo {q t : Nat → Nat} {n m j : Nat} (h : ∀ k, k ≤ n → m ≤ rowsF q t j k) : ∀ x, ∀ k, k ≤ n → m ≤ rowsF q t (j + x) k
  | 0 => h
  | x + 1 => fun k hk => stp_lo (rows_lo h x) k hk
theorem rows_congr {q q' t t' : Nat → Nat} {n z : Nat} (hq : ∀ k, k < n → q k = q' k) (ht : ∀ k, k < z → t k = t' k) : ∀ j, j ≤ z → ∀ k, k ≤ n → rowsF q t j k = rowsF q' t' j k
  | 0, _, _, _ => rfl
  | j + 1, hj, k, hk => by
    show stpR q (t j) (rowsF q t j) k = stpR q' (t' j) (rowsF q' t' j) k
    rw [ht j (by omega)]
    exact stpR_congr hq (rows_congr hq ht j (by omega)) k hk
theorem nrF_congr {q q' t t' : Nat → Nat} {n z : Nat} (hq : ∀ k, k < n → q k = q' k) (ht : ∀ k, k < z → t k = t' k) : nrF q n t z = nrF q' n t' z :=
  minR_congr z (fun j hj => rows_congr hq ht j hj n (Nat.le_refl _))
theorem min_ext {g : Nat → Nat} {e j : Nat} (h : ∀ x, j < x → min (minR g j) e ≤ g x) : ∀ x, min (minR g (j + x)) e = min (minR g j) e
  | 0 => rfl
  | x + 1 => by
    have h1 := min_ext h x
    have h2 := h (j + x + 1) (by omega)
    show min (min (minR g (j + x)) (g (j + x + 1))) e = _
    omega
theorem nr_stop {q t : Nat → Nat} {n z j lw e : Nat} (hj : j ≤ z) (hlw : ∀ k, k ≤ n → lw ≤ rowsF q t j k) (h : min (minR (fun x => rowsF q t x n) j) e ≤ lw) : min (minR (fun x => rowsF q t x n) j) e = min e (nrF q n t z) := by
  have h1 := min_ext (g := fun x => rowsF q t x n) (e := e) (j := j) (fun x hx => Nat.le_trans h (by have := rows_lo hlw (x - j) n (Nat.le_refl _); rw [show j + (x - j) = x by omega] at this; exact this)) (z - j)
  rw [show j + (z - j) = z by omega] at h1
  show _ = min e (minR (fun x => rowsF q t x n) z)
  rw [← h1, Nat.min_comm]
abbrev rmX1_lengthenPrefix : Room := { frames := 1, cells := 0, slots := 0, locals := 23 }
set_option maxHeartbeats 4000000 in
set_option maxRecDepth 100000 in
theorem mX1_lengthenPrefix (l : Launch) (D : va_G) (a : Nat → Nat) (cs : Nat → ClassId) (tp : (Nat → Int32) × Nat) (wd : (Nat → Nat) × Nat) (lx : (Nat → Nat) × (Nat → Nat) × (Nat → Nat) × Nat) (ro : Nat → Nat) (rs : (Nat → Nat) × (Nat → Nat) × (Nat → Nat) × (Nat → Nat) × (Nat → Nat) × Nat) (ch : Nat) (ha : wInj a) (hW : WdB wd) (hc : ch < 128) (hro : ∀ k, k ≤ wd.2 → ro k ≤ 100) : Met l yX1_lengthenPrefix wsX1_lengthenPrefix rmX1_lengthenPrefix (wdP D vwCl (wX a cs tp wd lx ro rs) (tyX cs) [.ref (a 4), .ref (a 2), .int (nI (ch))]) (wrQ (some (.int (nI (minR (stpR wd.1 ch ro) wd.2)))) (fun H => va_P D vwCl (wX a cs tp wd lx (mixR (stpR wd.1 ch ro) ro (wd.2 + 1)) rs) H) (inX a)) 0 0 (inX a) := by
  obtain ⟨hW1, hW2⟩ := id hW
  have b0 := hro 0 (Nat.zero_le _)
  refine nz_metWi (by decide) rfl (Nat.le_of_ble_eq_true rfl) rfl ?_
  intro p e s m args below meth c Q hx hb hml hts hown hP hK hret ls hl
  have hl : lv_has ls 7 [(0, .ref (a 4)), (1, .ref (a 2)), (2, .int (nI (ch)))] := hl
  have hown : s.vm.findClass RX1 = some m.cls := hown
  have hinX1 : ∀ w ∈ u_ws RX1 TX1 1, w ∈ wsX1_lengthenPrefix := by decide +kernel
  have hinX4 : ∀ w ∈ u_ws RX4 TX4 2, w ∈ wsX1_lengthenPrefix := by decide +kernel
  have hS : va_S (inX a) s.heap s.heap [] := va_S.rf
  obtain ⟨H, hH⟩ : ∃ H, H = s.heap := ⟨_, rfl⟩
  obtain ⟨locs, hlocs⟩ : ∃ locs : List Loc, locs = [] := ⟨_, rfl⟩
  have hP : va_P D vwCl (wX a cs tp wd lx ro rs) H := hH ▸ hP
  have hS : va_S (inX a) s.heap H locs := by rw [hH, hlocs]; exact va_S.rf
  suffices hgo : W p l e rmX1_lengthenPrefix s m args below meth c H locs 0 0 Q (F0 m 0 ls []) by rw [hH, hlocs] at hgo; exact hgo
  clear hH hlocs
  refine lv_aload_n hx hb dX1_lengthenPrefix_0 rfl (lv_at hl 0 rfl) ?_
  refine va_get (D := D) (ci := 1) (v := .ref (a 11)) (C := RX1) (T := TX1) (N := 1) hx hb hts hinX1 hown hK hP 4 rfl rfl 0 (by decide) (hts (.fieldLink RX1 9 "TypoSuggester$Measure" "row" "[I") (by decide +kernel)) (fun _ h9 => h9) rfl dX1_lengthenPrefix_1 ?_
  refine lv_iconst (v := nI 0) hx hb dX1_lengthenPrefix_4 (by decide +kernel) ?_
  refine nz_iald (f := ro) (k := 0) hx hb hK hP 11 1 rfl rfl (by omega) (by decide) dX1_lengthenPrefix_5 ?_
  refine lv_istore_n (lv' := [(3, .int (nI (ro 0))), (0, .ref (a 4)), (1, .ref (a 2)), (2, .int (nI (ch)))]) hx hb dX1_lengthenPrefix_6 rfl hl (by decide) rfl (fun ls hl => ?_)
  refine lv_aload_n hx hb dX1_lengthenPrefix_7 rfl (lv_at hl 1 rfl) ?_
  refine va_get (D := D) (ci := 1) (v := .ref (a 11)) (C := RX1) (T := TX1) (N := 1) hx hb hts hinX1 hown hK hP 4 rfl rfl 0 (by decide) (hts (.fieldLink RX1 9 "TypoSuggester$Measure" "row" "[I") (by decide +kernel)) (fun _ h9 => h9) rfl dX1_lengthenPrefix_8 ?_
  refine lv_iconst (v := nI 0) hx hb dX1_lengthenPrefix_11 (by decide +kernel) ?_
  refine lv_dup2_11 hx hb dX1_lengthenPrefix_12 rfl rfl ?_
  refine nz_iald (f := ro) (k := 0) hx hb hK hP 11 1 rfl rfl (by omega) (by decide) dX1_lengthenPrefix_13 ?_
  refine lv_iconst (v := nI 1) hx hb dX1_lengthenPrefix_14 (by decide +kernel) ?_
  refine nz_iadd (a := ro 0) (b := 1) hx hb dX1_lengthenPrefix_15 ?_
  refine nz_iast (f := ro) (k := 0) (v := ro 0 + 1) (ws' := wX a cs tp wd lx (va_up ro 0 (ro 0 + 1)) rs) hx hb hK hP (wX_D ha) hS 11 1 rfl rfl (by omega) (by decide) dX1_lengthenPrefix_16 rfl (fun H locs hP hS => ?_)
  refine lv_aload_n hx hb dX1_lengthenPrefix_17 rfl (lv_at hl 1 rfl) ?_
  refine va_get (D := D) (ci := 1) (v := .ref (a 11)) (C := RX1) (T := TX1) (N := 1) hx hb hts hinX1 hown hK hP 4 rfl rfl 0 (by decide) (hts (.fieldLink RX1 9 "TypoSuggester$Measure" "row" "[I") (by decide +kernel)) (fun _ h9 => h9) rfl dX1_lengthenPrefix_18 ?_
  refine lv_iconst (v := nI 0) hx hb dX1_lengthenPrefix_21 (by decide +kernel) ?_
  refine nz_iald (f := va_up ro 0 (ro 0 + 1)) (k := 0) hx hb hK hP 11 1 rfl rfl (by omega) (by decide) dX1_lengthenPrefix_22 ?_
  refine lv_istore (lv' := [(4, .int (nI ((va_up ro 0 (ro 0 + 1)) 0))), (3, .int (nI (ro 0))), (0, .ref (a 4)), (1, .ref (a 2)), (2, .int (nI (ch)))]) hx hb dX1_lengthenPrefix_23 hl (by decide) rfl (fun ls hl => ?_)
  refine lv_iconst (v := nI 1) hx hb dX1_lengthenPrefix_25 (by decide +kernel) ?_
  refine lv_istore (lv' := [(5, .int (nI (1))), (4, .int (nI ((va_up ro 0 (ro 0 + 1)) 0))), (3, .int (nI (ro 0))), (0, .ref (a 4)), (1, .ref (a 2)), (2, .int (nI (ch)))]) hx hb dX1_lengthenPrefix_26 hl (by decide) rfl (fun ls hl => ?_)
  have hP : va_P D vwCl (wX a cs tp wd lx (mixR (stpR wd.1 ch ro) ro (0 + 1)) rs) H := by rw [← mixR_step, mixR_0]; exact hP
  have e_1 : (nI ((va_up ro 0 (ro 0 + 1)) 0)) = (nI (minR (stpR wd.1 ch ro) 0)) := by unfold va_up; rw [if_pos rfl]; rfl
  have hl : lv_has ls 7 [(5, .int (nI (1))), (4, .int (nI (minR (stpR wd.1 ch ro) 0))), (3, .int (nI (ro 0))), (0, .ref (a 4)), (1, .ref (a 2)), (2, .int (nI (ch)))] := by rw [← e_1]; exact hl
  have loop : ∀ (fuel : Nat) (k : Nat), (k ≤ wd.2) → wd.2 - k < fuel → ∀ (H : Heap) (locs : List Loc), va_P D vwCl (wX a cs tp wd lx (mixR (stpR wd.1 ch ro) ro (k + 1)) rs) H → va_S (inX a) s.heap H locs → ∀ ls : Array Slot, lv_has ls 7 [(0, .ref (a 4)), (1, .ref (a 2)), (2, .int (nI (ch))), (3, .int (nI (ro k))), (4, .int (nI (minR (stpR wd.1 ch ro) k))), (5, .int (nI (k + 1)))] → W p l e rmX1_lengthenPrefix s m args below meth c H locs 0 0 Q (F0 m 28 ls []) := by
    intro fuel
    induction fuel with
    | zero => intro k hk hf; exact absurd hf (Nat.not_lt_zero _)
    | succ fuel ih =>
      intro k hk hf H locs hP hS ls hl
      refine lv_iload hx hb dX1_lengthenPrefix_28 (lv_at hl 5 rfl) ?_
      refine lv_aload_n hx hb dX1_lengthenPrefix_30 rfl (lv_at hl 1 rfl) ?_
      refine va_get (D := D) (ci := 4) (v := .int (nI (wd.2))) (C := RX4) (T := TX4) (N := 2) hx hb hts hinX4 hown hK hP 2 rfl rfl 1 (by decide) (hts (.fieldLink RX1 15 "TypoSuggester$Word" "length" "I") (by decide +kernel)) (fun _ h9 => h9) rfl dX1_lengthenPrefix_31 ?_
      refine nz_cgt (a := k + 1) (b := wd.2) (tgt := 120) hx hb dX1_lengthenPrefix_34 (by decide) (by omega) (by omega) (fun c_34 => ?_) (fun c_34 => ?_)
      · refine lv_iload hx hb dX1_lengthenPrefix_120 (lv_at hl 4 rfl) ?_
        have hkn : k = wd.2 := by omega
        rw [hkn] at hP ⊢
        exact hret 122 ls H locs dX1_lengthenPrefix_122 hP hS
      · have join : ∀ (x : Nat), (x = ro k + (if wd.1 k = ch then 0 else 1)) → ∀ (H : Heap) (locs : List Loc), va_P D vwCl (wX a cs tp wd lx (mixR (stpR wd.1 ch ro) ro (k + 1)) rs) H → va_S (inX a) s.heap H locs → ∀ ls : Array Slot, lv_has ls 7 [(0, .ref (a 4)), (1, .ref (a 2)), (2, .int (nI (ch))), (3, .int (nI (ro k))), (4, .int (nI (minR (stpR wd.1 ch ro) k))), (5, .int (nI (k + 1)))] → W p l e rmX1_lengthenPrefix s m args below meth c H locs 0 0 Q (F0 m 57 ls [.int (nI (x))]) := by
          intro x hx9 H locs hP hS ls hl
          have e1 : mixR (stpR wd.1 ch ro) ro (k + 1) (k + 1) = ro (k + 1) := mixR_ge (Nat.le_refl _)
          have e2 : mixR (stpR wd.1 ch ro) ro (k + 1) (k + 1 - 1) = stpR wd.1 ch ro k := mixR_lt (by omega)
          have b1 := hro (k + 1) (by omega)
          have b2 := hro k (by omega)
          have b3 := stpR_le wd.1 ch ro k
          have b4 : x ≤ ro k + 1 := by rw [hx9]; split <;> omega
          have b5 := minR_le (stpR wd.1 ch ro) k k (Nat.le_refl _)
          refine lv_istore (lv' := [(6, .int (nI (x))), (0, .ref (a 4)), (1, .ref (a 2)), (2, .int (nI (ch))), (3, .int (nI (ro k))), (4, .int (nI (minR (stpR wd.1 ch ro) k))), (5, .int (nI (k + 1)))]) hx hb dX1_lengthenPrefix_57 hl (by decide) rfl (fun ls hl => ?_)
          refine lv_aload_n hx hb dX1_lengthenPrefix_59 rfl (lv_at hl 1 rfl) ?_
          refine va_get (D := D) (ci := 1) (v := .ref (a 11)) (C := RX1) (T := TX1) (N := 1) hx hb hts hinX1 hown hK hP 4 rfl rfl 0 (by decide) (hts (.fieldLink RX1 9 "TypoSuggester$Measure" "row" "[I") (by decide +kernel)) (fun _ h9 => h9) rfl dX1_lengthenPrefix_60 ?_
          refine lv_iload hx hb dX1_lengthenPrefix_63 (lv_at hl 6 rfl) ?_
          refine nz_iald (f := mixR (stpR wd.1 ch ro) ro (k + 1)) (k := k + 1) hx hb hK hP 11 1 rfl rfl (by omega) (by decide) dX1_lengthenPrefix_65 ?_
          refine lv_istore_n (lv' := [(3, .int (nI ((mixR (stpR wd.1 ch ro) ro (k + 1)) (k + 1)))), (6, .int (nI (x))), (0, .ref (a 4)), (1, .ref (a 2)), (2, .int (nI (ch))), (4, .int (nI (minR (stpR wd.1 ch ro) k))), (5, .int (nI (k + 1)))]) hx hb dX1_lengthenPrefix_66 rfl hl (by decide) rfl (fun ls hl => ?_)
          have e_2 : (nI ((mixR (stpR wd.1 ch ro) ro (k + 1)) (k + 1))) = (nI (ro (k + 1))) := by rw [e1]
          have hl : lv_has ls 7 [(3, .int (nI (ro (k + 1)))), (6, .int (nI (x))), (0, .ref (a 4)), (1, .ref (a 2)), (2, .int (nI (ch))), (4, .int (nI (minR (stpR wd.1 ch ro) k))), (5, .int (nI (k + 1)))] := by rw [← e_2]; exact hl
          refine lv_aload_n hx hb dX1_lengthenPrefix_67 rfl (lv_at hl 2 rfl) ?_
          refine va_get (D := D) (ci := 1) (v := .ref (a 11)) (C := RX1) (T := TX1) (N := 1) hx hb hts hinX1 hown hK hP 4 rfl rfl 0 (by decide) (hts (.fieldLink RX1 9 "TypoSuggester$Measure" "row" "[I") (by decide +kernel)) (fun _ h9 => h9) rfl dX1_lengthenPrefix_68 ?_
          refine lv_iload hx hb dX1_lengthenPrefix_71 (lv_at hl 6 rfl) ?_
          refine lv_iload hx hb dX1_lengthenPrefix_73 (lv_at hl 1 rfl) ?_
          refine lv_aload_n hx hb dX1_lengthenPrefix_75 rfl (lv_at hl 2 rfl) ?_
          refine va_get (D := D) (ci := 1) (v := .ref (a 11)) (C := RX1) (T := TX1) (N := 1) hx hb hts hinX1 hown hK hP 4 rfl rfl 0 (by decide) (hts (.fieldLink RX1 9 "TypoSuggester$Measure" "row" "[I") (by decide +kernel)) (fun _ h9 => h9) rfl dX1_lengthenPrefix_76 ?_
          refine lv_iload hx hb dX1_lengthenPrefix_79 (lv_at hl 6 rfl) ?_
          refine lv_iconst (v := nI 1) hx hb dX1_lengthenPrefix_81 (by decide +kernel) ?_
          refine nz_isub (a := k + 1) (b := 1) hx hb dX1_lengthenPrefix_82 (by omega) ?_
          refine nz_iald (f := mixR (stpR wd.1 ch ro) ro (k + 1)) (k := (k + 1) - 1) hx hb hK hP 11 1 rfl rfl (by omega) (by decide) dX1_lengthenPrefix_83 ?_
          refine lv_aload_n hx hb dX1_lengthenPrefix_84 rfl (lv_at hl 2 rfl) ?_
          refine va_get (D := D) (ci := 1) (v := .ref (a 11)) (C := RX1) (T := TX1) (N := 1) hx hb hts hinX1 hown hK hP 4 rfl rfl 0 (by decide) (hts (.fieldLink RX1 9 "TypoSuggester$Measure" "row" "[I") (by decide +kernel)) (fun _ h9 => h9) rfl dX1_lengthenPrefix_85 ?_
          refine lv_iload hx hb dX1_lengthenPrefix_88 (lv_at hl 6 rfl) ?_
          refine nz_iald (f := mixR (stpR wd.1 ch ro) ro (k + 1)) (k := k + 1) hx hb hK hP 11 1 rfl rfl (by omega) (by decide) dX1_lengthenPrefix_90 ?_
          refine nz_mmin (a := (mixR (stpR wd.1 ch ro) ro (k + 1)) ((k + 1) - 1)) (b := (mixR (stpR wd.1 ch ro) ro (k + 1)) (k + 1)) hx hb (hml.trans hl.1.symm) hown (hts (.methodLink RX1 21 Lib.Math.min.name) (by decide +kernel)) (hts (.static Lib.Math.min.name) (by decide +kernel)) (hts (.initialized "java/lang/Math") (by decide +kernel)) (hts (.code Lib.Math.min.name Lib.Math.min.code 2 (some .int)) (by decide +kernel)) (Nat.le_of_ble_eq_true rfl) (Nat.le_of_ble_eq_true rfl) (Nat.zero_le _) (Nat.zero_le _) (by omega) (by omega) dX1_lengthenPrefix_91 ?_
          refine lv_iconst (v := nI 1) hx hb dX1_lengthenPrefix_94 (by decide +kernel) ?_
          refine nz_iadd (a := min ((mixR (stpR wd.1 ch ro) ro (k + 1)) ((k + 1) - 1)) ((mixR (stpR wd.1 ch ro) ro (k + 1)) (k + 1))) (b := 1) hx hb dX1_lengthenPrefix_95 ?_
          refine nz_mmin (a := x) (b := min ((mixR (stpR wd.1 ch ro) ro (k + 1)) ((k + 1) - 1)) ((mixR (stpR wd.1 ch ro) ro (k + 1)) (k + 1)) + 1) hx hb (hml.trans hl.1.symm) hown (hts (.methodLink RX1 21 Lib.Math.min.name) (by decide +kernel)) (hts (.static Lib.Math.min.name) (by decide +kernel)) (hts (.initialized "java/lang/Math") (by decide +kernel)) (hts (.code Lib.Math.min.name Lib.Math.min.code 2 (some .int)) (by decide +kernel)) (Nat.le_of_ble_eq_true rfl) (Nat.le_of_ble_eq_true rfl) (Nat.zero_le _) (Nat.zero_le _) (by omega) (by omega) dX1_lengthenPrefix_96 ?_
          refine nz_iast (f := mixR (stpR wd.1 ch ro) ro (k + 1)) (k := k + 1) (v := min x (min ((mixR (stpR wd.1 ch ro) ro (k + 1)) ((k + 1) - 1)) ((mixR (stpR wd.1 ch ro) ro (k + 1)) (k + 1)) + 1)) (ws' := wX a cs tp wd lx (va_up (mixR (stpR wd.1 ch ro) ro (k + 1)) (k + 1) (min x (min ((mixR (stpR wd.1 ch ro) ro (k + 1)) ((k + 1) - 1)) ((mixR (stpR wd.1 ch ro) ro (k + 1)) (k + 1)) + 1))) rs) hx hb hK hP (wX_D ha) hS 11 1 rfl rfl (by omega) (by decide) dX1_lengthenPrefix_99 rfl (fun H locs hP hS => ?_)
          have e_3 : va_up (mixR (stpR wd.1 ch ro) ro (k + 1)) (k + 1) (min x (min ((mixR (stpR wd.1 ch ro) ro (k + 1)) ((k + 1) - 1)) ((mixR (stpR wd.1 ch ro) ro (k + 1)) (k + 1)) + 1)) = mixR (stpR wd.1 ch ro) ro (k + 1 + 1) := by rw [e1, e2, hx9]; exact mixR_step _ _ _
          rw [e_3] at hP
          have e3 : mixR (stpR wd.1 ch ro) ro (k + 1 + 1) (k + 1) = stpR wd.1 ch ro (k + 1) := mixR_lt (by omega)
          have b6 := stpR_le wd.1 ch ro (k + 1)
          refine lv_iload hx hb dX1_lengthenPrefix_100 (lv_at hl 5 rfl) ?_
          refine lv_aload_n hx hb dX1_lengthenPrefix_102 rfl (lv_at hl 2 rfl) ?_
          refine va_get (D := D) (ci := 1) (v := .ref (a 11)) (C := RX1) (T := TX1) (N := 1) hx hb hts hinX1 hown hK hP 4 rfl rfl 0 (by decide) (hts (.fieldLink RX1 9 "TypoSuggester$Measure" "row" "[I") (by decide +kernel)) (fun _ h9 => h9) rfl dX1_lengthenPrefix_103 ?_
          refine lv_iload hx hb dX1_lengthenPrefix_106 (lv_at hl 6 rfl) ?_
          refine nz_iald (f := mixR (stpR wd.1 ch ro) ro (k + 1 + 1)) (k := k + 1) hx hb hK hP 11 1 rfl rfl (by omega) (by decide) dX1_lengthenPrefix_108 ?_
          refine nz_mmin (a := minR (stpR wd.1 ch ro) k) (b := (mixR (stpR wd.1 ch ro) ro (k + 1 + 1)) (k + 1)) hx hb (hml.trans hl.1.symm) hown (hts (.methodLink RX1 21 Lib.Math.min.name) (by decide +kernel)) (hts (.static Lib.Math.min.name) (by decide +kernel)) (hts (.initialized "java/lang/Math") (by decide +kernel)) (hts (.code Lib.Math.min.name Lib.Math.min.code 2 (some .int)) (by decide +kernel)) (Nat.le_of_ble_eq_true rfl) (Nat.le_of_ble_eq_true rfl) (Nat.zero_le _) (Nat.zero_le _) (by omega) (by omega) dX1_lengthenPrefix_109 ?_
          refine lv_istore (lv' := [(4, .int (nI (min (minR (stpR wd.1 ch ro) k) ((mixR (stpR wd.1 ch ro) ro (k + 1 + 1)) (k + 1))))), (3, .int (nI (ro (k + 1)))), (6, .int (nI (x))), (0, .ref (a 4)), (1, .ref (a 2)), (2, .int (nI (ch))), (5, .int (nI (k + 1)))]) hx hb dX1_lengthenPrefix_112 hl (by decide) rfl (fun ls hl => ?_)
          have e_4 : (nI (min (minR (stpR wd.1 ch ro) k) ((mixR (stpR wd.1 ch ro) ro (k + 1 + 1)) (k + 1)))) = (nI (minR (stpR wd.1 ch ro) (k + 1))) := by rw [e3]; rfl
          have hl : lv_has ls 7 [(4, .int (nI (minR (stpR wd.1 ch ro) (k + 1)))), (3, .int (nI (ro (k + 1)))), (6, .int (nI (x))), (0, .ref (a 4)), (1, .ref (a 2)), (2, .int (nI (ch))), (5, .int (nI (k + 1)))] := by rw [← e_4]; exact hl
          refine lv_iinc (v := nI (k + 1 + 1)) (lv' := [(5, .int (nI (k + 1 + 1))), (4, .int (nI (minR (stpR wd.1 ch ro) (k + 1)))), (3, .int (nI (ro (k + 1)))), (6, .int (nI (x))), (0, .ref (a 4)), (1, .ref (a 2)), (2, .int (nI (ch)))]) hx hb dX1_lengthenPrefix_114 hl (k := 6) rfl (nz_inc1 _) (by decide) rfl (fun ls hl => ?_)
          refine lv_goto (tgt := 28) hx hb dX1_lengthenPrefix_117 (by decide) ?_
          exact ih (k + 1) (by omega) (by omega) H locs hP hS ls (lv_sub hl [4, 5, 6, 2, 1, 0] rfl)
        refine lv_aload_n hx hb dX1_lengthenPrefix_37 rfl (lv_at hl 1 rfl) ?_
        refine va_get (D := D) (ci := 4) (v := .ref (a 7)) (C := RX4) (T := TX4) (N := 2) hx hb hts hinX4 hown hK hP 2 rfl rfl 0 (by decide) (hts (.fieldLink RX1 40 "TypoSuggester$Word" "letters" "[B") (by decide +kernel)) (fun _ h9 => h9) rfl dX1_lengthenPrefix_38 ?_
        refine lv_iload hx hb dX1_lengthenPrefix_41 (lv_at hl 5 rfl) ?_
        refine lv_iconst (v := nI 1) hx hb dX1_lengthenPrefix_43 (by decide +kernel) ?_
        refine nz_isub (a := k + 1) (b := 1) hx hb dX1_lengthenPrefix_44 (by omega) ?_
        refine nz_bald (f := wd.1) (k := (k + 1) - 1) hx hb hK hP 7 0 rfl rfl (by omega) (by decide) dX1_lengthenPrefix_45 ?_
        refine lv_iload_n hx hb dX1_lengthenPrefix_46 rfl (lv_at hl 2 rfl) ?_
        refine nz_cne (a := wd.1 ((k + 1) - 1)) (b := ch) (tgt := 54) hx hb dX1_lengthenPrefix_47 (by decide) (by have := hW2 (k + 1 - 1); omega) (by omega) (fun c_47 => ?_) (fun c_47 => ?_)
        · refine lv_iload_n hx hb dX1_lengthenPrefix_54 rfl (lv_at hl 3 rfl) ?_
          refine lv_iconst (v := nI 1) hx hb dX1_lengthenPrefix_55 (by decide +kernel) ?_
          refine nz_iadd (a := ro k) (b := 1) hx hb dX1_lengthenPrefix_56 ?_
          exact join (ro k + 1) (by rw [if_neg (show ¬ wd.1 k = ch from c_47)]) H locs hP hS ls (lv_sub hl [0, 1, 2, 3, 4, 5] rfl)
        · refine lv_iload_n hx hb dX1_lengthenPrefix_50 rfl (lv_at hl 3 rfl) ?_
          refine lv_goto (tgt := 57) hx hb dX1_lengthenPrefix_51 (by decide) ?_
          exact join (ro k) (by rw [if_pos (show wd.1 k = ch from c_47), Nat.add_zero]) H locs hP hS ls (lv_sub hl [0, 1, 2, 3, 4, 5] rfl)
  exact loop (wd.2 - 0 + 1) 0 (Nat.zero_le _) (Nat.lt_succ_self _) H locs hP hS ls (lv_sub hl [3, 4, 5, 2, 1, 0] rfl)
abbrev rmX1_nearness : Room := { frames := 2, cells := 0, slots := 0, locals := 49 }
set_option maxHeartbeats 4000000 in
set_option maxRecDepth 100000 in
theorem mX1_nearness (l : Launch) (D : va_G) (a : Nat → Nat) (cs : Nat → ClassId) (tp : (Nat → Int32) × Nat) (wd : (Nat → Nat) × Nat) (lx : (Nat → Nat) × (Nat → Nat) × (Nat → Nat) × Nat) (ro : Nat → Nat) (rs : (Nat → Nat) × (Nat → Nat) × (Nat → Nat) × (Nat → Nat) × (Nat → Nat) × Nat) (i : Nat) (d : Nat) (ha : wInj a) (hB : LxB lx) (hW : WdB wd) (hi : i < lx.2.2.2) (hd : d ≤ 2) (hz24 : lx.2.1 (i + 1) - lx.2.1 i ≤ 24) : Met l yX1_nearness wsX1_nearness rmX1_nearness (wdP D vwCl (wX a cs tp wd lx ro rs) (tyX cs) [.ref (a 4), .ref (a 2), .ref (a 3), .int (nI (i)), .int (nI (d))]) (wrQ (some (.int (nI (min (d + 1) (nrF wd.1 wd.2 (TX lx i) (ZX lx i)))))) (fun H => ∃ ro2, va_P D vwCl (wX a cs tp wd lx ro2 rs) H) (inX a)) 0 0 (inX a) := by
  obtain ⟨hB1, hB2, hB3, hB4, hB5⟩ := id hB
  obtain ⟨hW1, hW2⟩ := id hW
  have hm1 := hB3 i
  have hm2 := hB3 (i + 1)
  have hm3 := hB2 i hi
  refine nz_metWi (by decide) rfl (Nat.le_of_ble_eq_true rfl) rfl ?_
  intro p e s m args below meth c Q hx hb hml hts hown hP hK hret ls hl
  have hl : lv_has ls 9 [(0, .ref (a 4)), (1, .ref (a 2)), (2, .ref (a 3)), (3, .int (nI (i))), (4, .int (nI (d)))] := hl
  have hown : s.vm.findClass RX1 = some m.cls := hown
  have hinX4 : ∀ w ∈ u_ws RX4 TX4 2, w ∈ wsX1_nearness := by decide +kernel
  have hinX1 : ∀ w ∈ u_ws RX1 TX1 1, w ∈ wsX1_nearness := by decide +kernel
  have hinX0 : ∀ w ∈ u_ws RX0 TX0 4, w ∈ wsX1_nearness := by decide +kernel
  have hS : va_S (inX a) s.heap s.heap [] := va_S.rf
  obtain ⟨H, hH⟩ : ∃ H, H = s.heap := ⟨_, rfl⟩
  obtain ⟨locs, hlocs⟩ : ∃ locs : List Loc, locs = [] := ⟨_, rfl⟩
  have hP : va_P D vwCl (wX a cs tp wd lx ro rs) H := hH ▸ hP
  have hS : va_S (inX a) s.heap H locs := by rw [hH, hlocs]; exact va_S.rf
  suffices hgo : W p l e rmX1_nearness s m args below meth c H locs 0 0 Q (F0 m 0 ls []) by rw [hH, hlocs] at hgo; exact hgo
  clear hH hlocs
  refine lv_iconst (v := nI 0) hx hb dX1_nearness_0 (by decide +kernel) ?_
  refine lv_istore (lv' := [(5, .int (nI (0))), (0, .ref (a 4)), (1, .ref (a 2)), (2, .ref (a 3)), (3, .int (nI (i))), (4, .int (nI (d)))]) hx hb dX1_nearness_1 hl (by decide) rfl (fun ls hl => ?_)
  have hP : va_P D vwCl (wX a cs tp wd lx (mixR (fun x => x) ro 0) rs) H := by rw [mixR_0]; exact hP
  have loop : ∀ (fuel : Nat) (k : Nat), (k ≤ wd.2 + 1) → wd.2 + 1 - k < fuel → ∀ (H : Heap) (locs : List Loc), va_P D vwCl (wX a cs tp wd lx (mixR (fun x => x) ro k) rs) H → va_S (inX a) s.heap H locs → ∀ ls : Array Slot, lv_has ls 9 [(0, .ref (a 4)), (1, .ref (a 2)), (2, .ref (a 3)), (3, .int (nI (i))), (4, .int (nI (d))), (5, .int (nI (k)))] → W p l e rmX1_nearness s m args below meth c H locs 0 0 Q (F0 m 3 ls []) := by
    intro fuel
    induction fuel with
    | zero => intro k hk hf; exact absurd hf (Nat.not_lt_zero _)
    | succ fuel ih =>
      intro k hk hf H locs hP hS ls hl
      refine lv_iload hx hb dX1_nearness_3 (lv_at hl 5 rfl) ?_
      refine lv_aload_n hx hb dX1_nearness_5 rfl (lv_at hl 1 rfl) ?_
      refine va_get (D := D) (ci := 4) (v := .int (nI (wd.2))) (C := RX4) (T := TX4) (N := 2) hx hb hts hinX4 hown hK hP 2 rfl rfl 1 (by decide) (hts (.fieldLink RX1 15 "TypoSuggester$Word" "length" "I") (by decide +kernel)) (fun _ h9 => h9) rfl dX1_nearness_6 ?_
      refine nz_cgt (a := k) (b := wd.2) (tgt := 27) hx hb dX1_nearness_9 (by decide) (by omega) (by omega) (fun c_9 => ?_) (fun c_9 => ?_)
      · have hkn : k = wd.2 + 1 := by omega
        refine lv_aload_n hx hb dX1_nearness_27 rfl (lv_at hl 1 rfl) ?_
        refine va_get (D := D) (ci := 4) (v := .int (nI (wd.2))) (C := RX4) (T := TX4) (N := 2) hx hb hts hinX4 hown hK hP 2 rfl rfl 1 (by decide) (hts (.fieldLink RX1 15 "TypoSuggester$Word" "length" "I") (by decide +kernel)) (fun _ h9 => h9) rfl dX1_nearness_28 ?_
        refine lv_iload hx hb dX1_nearness_31 (lv_at hl 4 rfl) ?_
        refine lv_iconst (v := nI 1) hx hb dX1_nearness_33 (by decide +kernel) ?_
        refine nz_iadd (a := d) (b := 1) hx hb dX1_nearness_34 ?_
        refine nz_mmin (a := wd.2) (b := d + 1) hx hb (hml.trans hl.1.symm) hown (hts (.methodLink RX1 21 Lib.Math.min.name) (by decide +kernel)) (hts (.static Lib.Math.min.name) (by decide +kernel)) (hts (.initialized "java/lang/Math") (by decide +kernel)) (hts (.code Lib.Math.min.name Lib.Math.min.code 2 (some .int)) (by decide +kernel)) (Nat.le_of_ble_eq_true rfl) (Nat.le_of_ble_eq_true rfl) (Nat.zero_le _) (Nat.zero_le _) (by omega) (by omega) dX1_nearness_35 ?_
        refine lv_istore (lv' := [(5, .int (nI (min wd.2 (d + 1)))), (0, .ref (a 4)), (1, .ref (a 2)), (2, .ref (a 3)), (3, .int (nI (i))), (4, .int (nI (d)))]) hx hb dX1_nearness_38 hl (by decide) rfl (fun ls hl => ?_)
        have e_1 : (nI (min wd.2 (d + 1))) = (nI (min (minR (fun x => rowsF wd.1 (TX lx i) x wd.2) 0) (d + 1))) := rfl
        have hl : lv_has ls 9 [(5, .int (nI (min (minR (fun x => rowsF wd.1 (TX lx i) x wd.2) 0) (d + 1)))), (0, .ref (a 4)), (1, .ref (a 2)), (2, .ref (a 3)), (3, .int (nI (i))), (4, .int (nI (d)))] := by rw [← e_1]; exact hl
        refine lv_iconst (v := nI 0) hx hb dX1_nearness_40 (by decide +kernel) ?_
        refine lv_istore (lv' := [(6, .int (nI (0))), (5, .int (nI (min (minR (fun x => rowsF wd.1 (TX lx i) x wd.2) 0) (d + 1)))), (0, .ref (a 4)), (1, .ref (a 2)), (2, .ref (a 3)), (3, .int (nI (i))), (4, .int (nI (d)))]) hx hb dX1_nearness_41 hl (by decide) rfl (fun ls hl => ?_)
        refine lv_aload_n hx hb dX1_nearness_43 rfl (lv_at hl 4 rfl) ?_
        refine va_get (D := D) (ci := 0) (v := .ref (a 9)) (C := RX0) (T := TX0) (N := 4) hx hb hts hinX0 hown hK hP 3 rfl rfl 1 (by decide) (hts (.fieldLink RX1 27 "TypoSuggester$Lexicon" "starts" "[I") (by decide +kernel)) (fun _ h9 => h9) rfl dX1_nearness_44 ?_
        refine lv_iload_n hx hb dX1_nearness_47 rfl (lv_at hl 5 rfl) ?_
        refine lv_iconst (v := nI 1) hx hb dX1_nearness_48 (by decide +kernel) ?_
        refine nz_iadd (a := i) (b := 1) hx hb dX1_nearness_49 ?_
        refine nz_iald (f := lx.2.1) (k := i + 1) hx hb hK hP 9 1 rfl rfl (by omega) (by decide) dX1_nearness_50 ?_
        refine lv_istore (lv' := [(7, .int (nI (lx.2.1 (i + 1)))), (6, .int (nI (0))), (5, .int (nI (min (minR (fun x => rowsF wd.1 (TX lx i) x wd.2) 0) (d + 1)))), (0, .ref (a 4)), (1, .ref (a 2)), (2, .ref (a 3)), (3, .int (nI (i))), (4, .int (nI (d)))]) hx hb dX1_nearness_51 hl (by decide) rfl (fun ls hl => ?_)
        refine lv_aload_n hx hb dX1_nearness_53 rfl (lv_at hl 5 rfl) ?_
        refine va_get (D := D) (ci := 0) (v := .ref (a 9)) (C := RX0) (T := TX0) (N := 4) hx hb hts hinX0 hown hK hP 3 rfl rfl 1 (by decide) (hts (.fieldLink RX1 27 "TypoSuggester$Lexicon" "starts" "[I") (by decide +kernel)) (fun _ h9 => h9) rfl dX1_nearness_54 ?_
        refine lv_iload_n hx hb dX1_nearness_57 rfl (lv_at hl 6 rfl) ?_
        refine nz_iald (f := lx.2.1) (k := i) hx hb hK hP 9 1 rfl rfl (by omega) (by decide) dX1_nearness_58 ?_
        refine lv_istore (lv' := [(8, .int (nI (lx.2.1 i))), (7, .int (nI (lx.2.1 (i + 1)))), (6, .int (nI (0))), (5, .int (nI (min (minR (fun x => rowsF wd.1 (TX lx i) x wd.2) 0) (d + 1)))), (0, .ref (a 4)), (1, .ref (a 2)), (2, .ref (a 3)), (3, .int (nI (i))), (4, .int (nI (d)))]) hx hb dX1_nearness_59 hl (by decide) rfl (fun ls hl => ?_)
        have loop2 : ∀ (fuel : Nat) (j : Nat) (lw : Nat) (ro2 : Nat → Nat), (j ≤ lx.2.1 (i + 1) - lx.2.1 i) → (∀ k, k ≤ wd.2 → lw ≤ rowsF wd.1 (TX lx i) j k) → (∀ k, k ≤ wd.2 → ro2 k = rowsF wd.1 (TX lx i) j k) → (lw ≤ 100) → lx.2.1 (i + 1) - lx.2.1 i - j < fuel → ∀ (H : Heap) (locs : List Loc), va_P D vwCl (wX a cs tp wd lx ro2 rs) H → va_S (inX a) s.heap H locs → ∀ ls : Array Slot, lv_has ls 9 [(0, .ref (a 4)), (1, .ref (a 2)), (2, .ref (a 3)), (3, .int (nI (i))), (5, .int (nI (min (minR (fun x => rowsF wd.1 (TX lx i) x wd.2) j) (d + 1)))), (6, .int (nI (lw))), (7, .int (nI (lx.2.1 (i + 1)))), (8, .int (nI (lx.2.1 i + j)))] → W p l e rmX1_nearness s m args below meth c H locs 0 0 Q (F0 m 61 ls []) := by
          intro fuel
          induction fuel with
          | zero => intro j lw ro2 hj hlw hro2 hlb hf; exact absurd hf (Nat.not_lt_zero _)
          | succ fuel ih2 =>
            intro j lw ro2 hj hlw hro2 hlb hf H locs hP hS ls hl
            refine lv_iload hx hb dX1_nearness_61 (lv_at hl 7 rfl) ?_
            refine lv_iload hx hb dX1_nearness_63 (lv_at hl 6 rfl) ?_
            refine nz_cge (a := lx.2.1 i + j) (b := lx.2.1 (i + 1)) (tgt := 111) hx hb dX1_nearness_65 (by decide) (by omega) (by omega) (fun c_65 => ?_) (fun c_65 => ?_)
            · have hjz : j = ZX lx i := by show j = lx.2.1 (i + 1) - lx.2.1 i; omega
              have hz : min (minR (fun x => rowsF wd.1 (TX lx i) x wd.2) j) (d + 1) = min (d + 1) (nrF wd.1 wd.2 (TX lx i) (ZX lx i)) := by rw [hjz, Nat.min_comm]; rfl
              refine lv_iload hx hb dX1_nearness_111 (lv_at hl 4 rfl) ?_
              rw [hz]
              exact hret 113 ls H locs dX1_nearness_113 ⟨_, hP⟩ hS
            · refine lv_iload hx hb dX1_nearness_68 (lv_at hl 5 rfl) ?_
              refine lv_iload hx hb dX1_nearness_70 (lv_at hl 4 rfl) ?_
              refine nz_cge (a := lw) (b := min (minR (fun x => rowsF wd.1 (TX lx i) x wd.2) j) (d + 1)) (tgt := 111) hx hb dX1_nearness_72 (by decide) (by omega) (by omega) (fun c_72 => ?_) (fun c_72 => ?_)
              · have hz : min (minR (fun x => rowsF wd.1 (TX lx i) x wd.2) j) (d + 1) = min (d + 1) (nrF wd.1 wd.2 (TX lx i) (ZX lx i)) := nr_stop hj hlw c_72
                refine lv_iload hx hb dX1_nearness_111 (lv_at hl 4 rfl) ?_
                rw [hz]
                exact hret 113 ls H locs dX1_nearness_113 ⟨_, hP⟩ hS
              · refine lv_aload_n hx hb dX1_nearness_75 rfl (lv_at hl 0 rfl) ?_
                refine lv_aload_n hx hb dX1_nearness_76 rfl (lv_at hl 1 rfl) ?_
                refine lv_aload_n hx hb dX1_nearness_77 rfl (lv_at hl 2 rfl) ?_
                refine va_get (D := D) (ci := 0) (v := .ref (a 8)) (C := RX0) (T := TX0) (N := 4) hx hb hts hinX0 hown hK hP 3 rfl rfl 0 (by decide) (hts (.fieldLink RX1 32 "TypoSuggester$Lexicon" "letters" "[B") (by decide +kernel)) (fun _ h9 => h9) rfl dX1_nearness_78 ?_
                refine lv_iload hx hb dX1_nearness_81 (lv_at hl 7 rfl) ?_
                refine nz_bald (f := lx.1) (k := lx.2.1 i + j) hx hb hK hP 8 0 rfl rfl (by omega) (by decide) dX1_nearness_83 ?_
                have hst : ∀ k, k ≤ wd.2 → stpR wd.1 (lx.1 (lx.2.1 i + j)) ro2 k = rowsF wd.1 (TX lx i) (j + 1) k := stpR_congr (fun _ _ => rfl) hro2
                have hrb : ∀ k, k ≤ wd.2 → ro2 k ≤ 100 := fun k hk => by have := rows_le wd.1 (TX lx i) j k; rw [hro2 k hk]; omega
                have hb9 := minR_le (stpR wd.1 (lx.1 (lx.2.1 i + j)) ro2) wd.2 0 (Nat.zero_le _)
                have hb8 := stpR_le wd.1 (lx.1 (lx.2.1 i + j)) ro2 0
                have hb7 := rows_le wd.1 (TX lx i) j 0
                have hb6 := hro2 0 (Nat.zero_le _)
                refine nz_callW (va_runV (As := [.ref (a 2), .int (nI (lx.1 (lx.2.1 i + j)))]) (rest := []) ⟨hx, hb, hml, hown, hts⟩ (mX1_lengthenPrefix l D a cs tp wd lx ro2 rs (lx.1 (lx.2.1 i + j)) ha hW (hB4 _) hrb) (cwV 2 hts gX1_nearness_X1_lengthenPrefix rfl rfl rfl (by decide +kernel) ⟨Nat.le_of_ble_eq_true rfl, Nat.le_of_ble_eq_true rfl⟩) (nz_preV (ci := 1) (q0 := 4) hK hP rfl rfl) rfl rfl hl.1 rfl (lv_room (Nat.le_of_ble_eq_true rfl)) dX1_nearness_84 ⟨Nat.zero_le _, Nat.zero_le _⟩) hS (fun _ h => h) (fun H locs hP _ _ hS => ?_)
                refine lv_istore (lv' := [(6, .int (nI (minR (stpR wd.1 (lx.1 (lx.2.1 i + j)) ro2) wd.2))), (0, .ref (a 4)), (1, .ref (a 2)), (2, .ref (a 3)), (3, .int (nI (i))), (5, .int (nI (min (minR (fun x => rowsF wd.1 (TX lx i) x wd.2) j) (d + 1)))), (7, .int (nI (lx.2.1 (i + 1)))), (8, .int (nI (lx.2.1 i + j)))]) hx hb dX1_nearness_87 hl (by decide) rfl (fun ls hl => ?_)
                have e9 : mixR (stpR wd.1 (lx.1 (lx.2.1 i + j)) ro2) ro2 (wd.2 + 1) wd.2 = rowsF wd.1 (TX lx i) (j + 1) wd.2 := by rw [mixR_lt (Nat.lt_succ_self _)]; exact hst _ (Nat.le_refl _)
                have hb5 := rows_le wd.1 (TX lx i) (j + 1) wd.2
                refine lv_iload hx hb dX1_nearness_89 (lv_at hl 5 rfl) ?_
                refine lv_aload_n hx hb dX1_nearness_91 rfl (lv_at hl 1 rfl) ?_
                refine va_get (D := D) (ci := 1) (v := .ref (a 11)) (C := RX1) (T := TX1) (N := 1) hx hb hts hinX1 hown hK hP 4 rfl rfl 0 (by decide) (hts (.fieldLink RX1 9 "TypoSuggester$Measure" "row" "[I") (by decide +kernel)) (fun _ h9 => h9) rfl dX1_nearness_92 ?_
                refine lv_aload_n hx hb dX1_nearness_95 rfl (lv_at hl 2 rfl) ?_
                refine va_get (D := D) (ci := 4) (v := .int (nI (wd.2))) (C := RX4) (T := TX4) (N := 2) hx hb hts hinX4 hown hK hP 2 rfl rfl 1 (by decide) (hts (.fieldLink RX1 15 "TypoSuggester$Word" "length" "I") (by decide +kernel)) (fun _ h9 => h9) rfl dX1_nearness_96 ?_
                refine nz_iald (f := mixR (stpR wd.1 (lx.1 (lx.2.1 i + j)) ro2) ro2 (wd.2 + 1)) (k := wd.2) hx hb hK hP 11 1 rfl rfl (by omega) (by decide) dX1_nearness_99 ?_
                refine nz_mmin (a := min (minR (fun x => rowsF wd.1 (TX lx i) x wd.2) j) (d + 1)) (b := (mixR (stpR wd.1 (lx.1 (lx.2.1 i + j)) ro2) ro2 (wd.2 + 1)) wd.2) hx hb (hml.trans hl.1.symm) hown (hts (.methodLink RX1 21 Lib.Math.min.name) (by decide +kernel)) (hts (.static Lib.Math.min.name) (by decide +kernel)) (hts (.initialized "java/lang/Math") (by decide +kernel)) (hts (.code Lib.Math.min.name Lib.Math.min.code 2 (some .int)) (by decide +kernel)) (Nat.le_of_ble_eq_true rfl) (Nat.le_of_ble_eq_true rfl) (Nat.zero_le _) (Nat.zero_le _) (by omega) (by omega) dX1_nearness_100 ?_
                refine lv_istore (lv' := [(5, .int (nI (min (min (minR (fun x => rowsF wd.1 (TX lx i) x wd.2) j) (d + 1)) ((mixR (stpR wd.1 (lx.1 (lx.2.1 i + j)) ro2) ro2 (wd.2 + 1)) wd.2)))), (6, .int (nI (minR (stpR wd.1 (lx.1 (lx.2.1 i + j)) ro2) wd.2))), (0, .ref (a 4)), (1, .ref (a 2)), (2, .ref (a 3)), (3, .int (nI (i))), (7, .int (nI (lx.2.1 (i + 1)))), (8, .int (nI (lx.2.1 i + j)))]) hx hb dX1_nearness_103 hl (by decide) rfl (fun ls hl => ?_)
                have e_2 : (nI (min (min (minR (fun x => rowsF wd.1 (TX lx i) x wd.2) j) (d + 1)) ((mixR (stpR wd.1 (lx.1 (lx.2.1 i + j)) ro2) ro2 (wd.2 + 1)) wd.2))) = (nI (min (minR (fun x => rowsF wd.1 (TX lx i) x wd.2) (j + 1)) (d + 1))) := by rw [e9]; show nI _ = nI (min (min (minR (fun x => rowsF wd.1 (TX lx i) x wd.2) j) (rowsF wd.1 (TX lx i) (j + 1) wd.2)) (d + 1)); congr 1; omega
                have hl : lv_has ls 9 [(5, .int (nI (min (minR (fun x => rowsF wd.1 (TX lx i) x wd.2) (j + 1)) (d + 1)))), (6, .int (nI (minR (stpR wd.1 (lx.1 (lx.2.1 i + j)) ro2) wd.2))), (0, .ref (a 4)), (1, .ref (a 2)), (2, .ref (a 3)), (3, .int (nI (i))), (7, .int (nI (lx.2.1 (i + 1)))), (8, .int (nI (lx.2.1 i + j)))] := by rw [← e_2]; exact hl
                refine lv_iinc (v := nI (lx.2.1 i + j + 1)) (lv' := [(8, .int (nI (lx.2.1 i + j + 1))), (5, .int (nI (min (minR (fun x => rowsF wd.1 (TX lx i) x wd.2) (j + 1)) (d + 1)))), (6, .int (nI (minR (stpR wd.1 (lx.1 (lx.2.1 i + j)) ro2) wd.2))), (0, .ref (a 4)), (1, .ref (a 2)), (2, .ref (a 3)), (3, .int (nI (i))), (7, .int (nI (lx.2.1 (i + 1))))]) hx hb dX1_nearness_105 hl (k := 7) rfl (nz_inc1 _) (by decide) rfl (fun ls hl => ?_)
                refine lv_goto (tgt := 61) hx hb dX1_nearness_108 (by decide) ?_
                exact ih2 (j + 1) (minR (stpR wd.1 (lx.1 (lx.2.1 i + j)) ro2) wd.2) (mixR (stpR wd.1 (lx.1 (lx.2.1 i + j)) ro2) ro2 (wd.2 + 1)) (by omega) (fun k hk => by rw [← hst k hk]; exact minR_le _ _ _ hk) (fun k hk => by rw [mixR_lt (by omega)]; exact hst k hk) (by omega) (by omega) H locs hP hS ls (lv_sub hl [3, 4, 5, 6, 1, 2, 7, 0] rfl)
        exact loop2 (lx.2.1 (i + 1) - lx.2.1 i - 0 + 1) 0 0 (mixR (fun x => x) ro k) (Nat.zero_le _) (fun _ _ => Nat.zero_le _) (fun x hx => mixR_lt (by omega)) (Nat.zero_le _) (Nat.lt_succ_self _) H locs hP hS ls (lv_sub hl [4, 5, 6, 7, 3, 2, 1, 0] rfl)
      · refine lv_aload_n hx hb dX1_nearness_12 rfl (lv_at hl 0 rfl) ?_
        refine va_get (D := D) (ci := 1) (v := .ref (a 11)) (C := RX1) (T := TX1) (N := 1) hx hb hts hinX1 hown hK hP 4 rfl rfl 0 (by decide) (hts (.fieldLink RX1 9 "TypoSuggester$Measure" "row" "[I") (by decide +kernel)) (fun _ h9 => h9) rfl dX1_nearness_13 ?_
        refine lv_iload hx hb dX1_nearness_16 (lv_at hl 5 rfl) ?_
        refine lv_iload hx hb dX1_nearness_18 (lv_at hl 5 rfl) ?_
        refine nz_iast (f := mixR (fun x => x) ro k) (k := k) (v := k) (ws' := wX a cs tp wd lx (va_up (mixR (fun x => x) ro k) k k) rs) hx hb hK hP (wX_D ha) hS 11 1 rfl rfl (by omega) (by decide) dX1_nearness_20 rfl (fun H locs hP hS => ?_)
        have e_3 : va_up (mixR (fun x => x) ro k) k k = mixR (fun x => x) ro (k + 1) := mixR_step _ _ _
        rw [e_3] at hP
        refine lv_iinc (v := nI (k + 1)) (lv' := [(5, .int (nI (k + 1))), (0, .ref (a 4)), (1, .ref (a 2)), (2, .ref (a 3)), (3, .int (nI (i))), (4, .int (nI (d)))]) hx hb dX1_nearness_21 hl (k := 5) rfl (nz_inc1 _) (by decide) rfl (fun ls hl => ?_)
        refine lv_goto (tgt := 3) hx hb dX1_nearness_24 (by decide) ?_
        exact ih (k + 1) (by omega) (by omega) H locs hP hS ls (lv_sub hl [1, 2, 3, 4, 5, 0] rfl)
  exact loop (wd.2 + 1 - 0 + 1) 0 (Nat.zero_le _) (Nat.lt_succ_self _) H locs hP hS ls (lv_sub hl [1, 2, 3, 4, 5, 0] rfl)
