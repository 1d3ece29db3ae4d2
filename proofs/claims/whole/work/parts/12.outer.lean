/-! The outer object's own methods that take the tape. -/
abbrev TpT : Type := (Nat → Int32) × Nat
def goodT (tp : TpT) : Prop := tp.2 ≤ 24 ∧ ∀ j, j < tp.2 → smB (tp.1 j) = true
abbrev qF (tp : TpT) : Nat → Nat := fun j => (tp.1 j).toNatClampNeg
theorem smB_q {x : Int32} (h : smB x = true) : x = nI x.toNatClampNeg ∧ x.toNatClampNeg < 128 := by
  obtain ⟨n, h1, h2, rfl⟩ := smB_nat h
  rw [nI_clamp (by omega)]
  exact ⟨rfl, by omega⟩
theorem up_ext {f g : Nat → Nat} {k : Nat} (h : ∀ j, j < k → f j = g j) : ∀ j, j < k + 1 → va_up f k (g k) j = g j := fun j hj => by
  unfold va_up
  by_cases e : j = k
  · rw [if_pos e, e]
  · rw [if_neg e]
    exact h j (by omega)
theorem up_lt {f : Nat → Nat} {k v : Nat} (h : ∀ j, f j < 128) (hv : v < 128) : ∀ j, va_up f k v j < 128 := fun j => by
  unfold va_up
  split
  · exact hv
  · exact h j
theorem plp_congr {lx : LxT} {f g : Nat → Nat} {n n2 r : Nat} (h : PLp lx f n r) (e : n2 = n ∧ ∀ j, j < n → g j = f j) : PLp lx g n2 r := by
  obtain ⟨rfl, e⟩ := e
  exact ⟨h.1, fun i hi => ltF_congr (fun _ _ => rfl) (fun j hj => (e j hj).symm) (h.2.1 i hi), fun i hi hn z => h.2.2 i hi hn (ltF_congr (fun _ _ => rfl) e z)⟩
theorem stdX_congr2 {lx : LxT} {f g : Nat → Nat} {n n2 r : Nat} (e : n2 = n ∧ ∀ j, j < n → g j = f j) : stdX lx f n r ↔ stdX lx g n2 r := by
  obtain ⟨rfl, e⟩ := e
  exact stdX_congr (fun j hj => (e j hj).symm)
theorem useX_0 {lx : LxT} {f : Nat → Nat} {len wt : Nat} (h : len = 0) : useX lx f len wt = (lx, 0) := by
  unfold useX
  rw [dB_f (by omega)]
  rfl
theorem useX_pos {lx : LxT} {f : Nat → Nat} {len wt : Nat} (h : 0 < len) : useX lx f len wt = (bif dB (stdX lx f len (plX lx f len)) then lxAdd lx (plX lx f len) wt else (bif dB (roomX lx len) then lxIns lx (f, len) (plX lx f len) wt else lx), bif (dB (stdX lx f len (plX lx f len)) || dB (roomX lx len)) then 1 else 0) := by
  unfold useX
  rw [dB_t h]
  cases dB (stdX lx f len (plX lx f len)) with
  | true => rfl
  | false =>
    cases dB (roomX lx len) with
    | true => rfl
    | false => rfl
theorem lrn_0 {σ : Type} {U : σ → (Nat → Nat) → Nat → σ × Nat} {lo : Nat → Nat} {m i L c : Nat} {x : σ} (h : lo i = 0) : lrn U lo (m + 1) i L x c = lrn U lo m (i + 1) 0 (U x (fun j => lo (i - L + j)) (min L 24)).1 (c + (U x (fun j => lo (i - L + j)) (min L 24)).2) := by
  show (if lo i = 0 then _ else _) = _
  rw [if_pos h]
theorem lrn_1 {σ : Type} {U : σ → (Nat → Nat) → Nat → σ × Nat} {lo : Nat → Nat} {m i L c : Nat} {x : σ} (h : lo i ≠ 0) : lrn U lo (m + 1) i L x c = lrn U lo m (i + 1) (L + 1) x c := by
  show (if lo i = 0 then _ else _) = _
  rw [if_neg h]
theorem app_word {f lo : Nat → Nat} {L ch : Nat} (h : ∀ j, j < min L 24 → f j = lo j) (hb : ∀ j, f j < 128) (hc : ch < 128) (e : ch = lo L) : ∃ f2 : Nat → Nat, (∀ j, j < min (L + 1) 24 → f2 j = lo j) ∧ (∀ j, f2 j < 128) ∧ (bif decide (min L 24 < 24) then (va_up f (min L 24) ch, min L 24 + 1) else (f, min L 24)) = (f2, min (L + 1) 24) := by
  rcases Nat.lt_or_ge L 24 with z | z
  · refine ⟨va_up f L ch, ?_, up_lt hb hc, ?_⟩
    · rw [show min (L + 1) 24 = L + 1 by omega, e]
      rw [show min L 24 = L by omega] at h
      exact up_ext h
    · rw [show min L 24 = L by omega, show min (L + 1) 24 = L + 1 by omega, decide_eq_true z]
      rfl
  · refine ⟨f, ?_, hb, ?_⟩
    · rw [show min (L + 1) 24 = min L 24 by omega]
      exact h
    · rw [decide_eq_false (by omega), show min (L + 1) 24 = min L 24 by omega]
      rfl
/-- learn: what it answers, the lexicon then, how long the tape is then -/
noncomputable def lrnA (lx : LxT) (tp : TpT) (w : Nat) : LxT × Nat := lrn (fun y f n => useX y f n w) (fun i => lowN (tp.1 i)) tp.2 0 0 lx 0
def lrnOk (x : Int32) : Prop := ¬ x < 0 ∧ x.toNatClampNeg ≤ 1000000
noncomputable def lrnI (lx : LxT) (tp : TpT) (x : Int32) : Int32 := bif dB (lrnOk x) then nI (lrnA lx tp x.toNatClampNeg).2 else -1
noncomputable def lrnL (lx : LxT) (tp : TpT) (x : Int32) : LxT := bif dB (lrnOk x) then (lrnA lx tp x.toNatClampNeg).1 else lx
noncomputable def lrnT (tp : TpT) (x : Int32) : Nat := bif dB (lrnOk x) then 0 else tp.2
abbrev rmX5_takeLetters : Room := { frames := 1, cells := 0, slots := 0, locals := 21 }
set_option maxHeartbeats 4000000 in
set_option maxRecDepth 100000 in
theorem mX5_takeLetters (l : Launch) (D : va_G) (a : Nat → Nat) (cs : Nat → ClassId) (tp : (Nat → Int32) × Nat) (wd : (Nat → Nat) × Nat) (lx : (Nat → Nat) × (Nat → Nat) × (Nat → Nat) × Nat) (ro : Nat → Nat) (rs : (Nat → Nat) × (Nat → Nat) × (Nat → Nat) × (Nat → Nat) × (Nat → Nat) × Nat) (bb : Bool) (ha : wInj a) (hT : tp.2 ≤ 400) (hW : WdB wd) (hbb : bb = true ↔ goodT tp) : Met l yX5_takeLetters wsX5_takeLetters rmX5_takeLetters (wdP D vwCl (wX a cs tp wd lx ro rs) (tyX cs) [.ref (a 0)]) (wrQ (some (.int (bI (bb)))) (fun H => ∃ wd2, (WdB wd2 ∧ (bb = true → wd2.2 = tp.2 ∧ ∀ j, j < tp.2 → wd2.1 j = qF tp j)) ∧ va_P D vwCl (wX a cs (tp.1, 0) wd2 lx ro rs) H) (inX a)) 0 0 (inX a) := by
  obtain ⟨hW1, hW2⟩ := id hW
  refine nz_metWi (by decide) rfl (Nat.le_of_ble_eq_true rfl) (bI_nar _) ?_
  intro p e s m args below meth c Q hx hb hml hts hown hP hK hret ls hl
  have hl : lv_has ls 3 [(0, .ref (a 0))] := hl
  have hown : s.vm.findClass RX5 = some m.cls := hown
  have hinX5 : ∀ w ∈ u_ws RX5 TX5 5, w ∈ wsX5_takeLetters := by decide +kernel
  have hinX3 : ∀ w ∈ u_ws RX3 TX3 2, w ∈ wsX5_takeLetters := by decide +kernel
  have hinX4 : ∀ w ∈ u_ws RX4 TX4 2, w ∈ wsX5_takeLetters := by decide +kernel
  have hS : va_S (inX a) s.heap s.heap [] := va_S.rf
  obtain ⟨H, hH⟩ : ∃ H, H = s.heap := ⟨_, rfl⟩
  obtain ⟨locs, hlocs⟩ : ∃ locs : List Loc, locs = [] := ⟨_, rfl⟩
  have hP : va_P D vwCl (wX a cs tp wd lx ro rs) H := hH ▸ hP
  have hS : va_S (inX a) s.heap H locs := by rw [hH, hlocs]; exact va_S.rf
  suffices hgo : W p l e rmX5_takeLetters s m args below meth c H locs 0 0 Q (F0 m 0 ls []) by rw [hH, hlocs] at hgo; exact hgo
  clear hH hlocs
  refine lv_aload_n hx hb dX5_takeLetters_0 rfl (lv_at hl 0 rfl) ?_
  refine va_get (D := D) (ci := 5) (v := .ref (a 1)) (C := RX5) (T := TX5) (N := 5) hx hb hts hinX5 hown hK hP 0 rfl rfl 0 (by decide) (hts (.fieldLink RX5 10 "TypoSuggester" "tape" "LTypoSuggester$Tape;") (by decide +kernel)) (fun _ h9 => h9) rfl dX5_takeLetters_1 ?_
  refine va_get (D := D) (ci := 3) (v := .int (nI (tp.2))) (C := RX3) (T := TX3) (N := 2) hx hb hts hinX3 hown hK hP 1 rfl rfl 1 (by decide) (hts (.fieldLink RX5 48 "TypoSuggester$Tape" "size" "I") (by decide +kernel)) (fun _ h9 => h9) rfl dX5_takeLetters_4 ?_
  refine lv_istore_n (lv' := [(1, .int (nI (tp.2))), (0, .ref (a 0))]) hx hb dX5_takeLetters_7 rfl hl (by decide) rfl (fun ls hl => ?_)
  refine lv_aload_n hx hb dX5_takeLetters_8 rfl (lv_at hl 1 rfl) ?_
  refine va_get (D := D) (ci := 5) (v := .ref (a 1)) (C := RX5) (T := TX5) (N := 5) hx hb hts hinX5 hown hK hP 0 rfl rfl 0 (by decide) (hts (.fieldLink RX5 10 "TypoSuggester" "tape" "LTypoSuggester$Tape;") (by decide +kernel)) (fun _ h9 => h9) rfl dX5_takeLetters_9 ?_
  refine lv_iconst (v := nI 0) hx hb dX5_takeLetters_12 (by decide +kernel) ?_
  refine nz_put (D := D) (ci := 3) (v := .int (nI (0))) (ty := .int) (ws' := wX a cs (tp.1, 0) wd lx ro rs) (C := RX3) (T := TX3) (N := 2) hx hb hts hinX3 tyX3 tyX3_ok nmX3 hown hK hP (wX_D ha) hS 1 rfl rfl 1 (by decide) (hts (.fieldLink RX5 48 "TypoSuggester$Tape" "size" "I") (by decide +kernel)) (fun _ h9 => h9) rfl (by decide +kernel) rfl rfl (Nat.le_of_ble_eq_true rfl) dX5_takeLetters_13 rfl (fun H locs hP hS => ?_)
  refine lv_aload_n hx hb dX5_takeLetters_16 rfl (lv_at hl 1 rfl) ?_
  refine va_get (D := D) (ci := 5) (v := .ref (a 2)) (C := RX5) (T := TX5) (N := 5) hx hb hts hinX5 hown hK hP 0 rfl rfl 1 (by decide) (hts (.fieldLink RX5 19 "TypoSuggester" "word" "LTypoSuggester$Word;") (by decide +kernel)) (fun _ h9 => h9) rfl dX5_takeLetters_17 ?_
  refine lv_iconst (v := nI 0) hx hb dX5_takeLetters_20 (by decide +kernel) ?_
  refine nz_put (D := D) (ci := 4) (v := .int (nI (0))) (ty := .int) (ws' := wX a cs (tp.1, 0) (wd.1, 0) lx ro rs) (C := RX4) (T := TX4) (N := 2) hx hb hts hinX4 tyX4 tyX4_ok nmX4 hown hK hP (wX_D ha) hS 2 rfl rfl 1 (by decide) (hts (.fieldLink RX5 53 "TypoSuggester$Word" "length" "I") (by decide +kernel)) (fun _ h9 => h9) rfl (by decide +kernel) rfl rfl (Nat.le_of_ble_eq_true rfl) dX5_takeLetters_21 rfl (fun H locs hP hS => ?_)
  refine lv_iload_n hx hb dX5_takeLetters_24 rfl (lv_at hl 0 rfl) ?_
  refine lv_bipush (v := nI 24) hx hb dX5_takeLetters_25 (by decide +kernel) ?_
  refine nz_cle (a := tp.2) (b := 24) (tgt := 32) hx hb dX5_takeLetters_27 (by decide) (by omega) (by omega) (fun c_27 => ?_) (fun c_27 => ?_)
  · refine lv_iconst (v := nI 0) hx hb dX5_takeLetters_32 (by decide +kernel) ?_
    refine lv_istore_n (lv' := [(2, .int (nI (0))), (1, .int (nI (tp.2))), (0, .ref (a 0))]) hx hb dX5_takeLetters_33 rfl hl (by decide) rfl (fun ls hl => ?_)
    have loop : ∀ (fuel : Nat) (k : Nat) (f : Nat → Nat), (k ≤ tp.2) → (∀ j, j < k → f j = qF tp j) → (∀ j, j < k → smB (tp.1 j) = true) → (∀ j, f j < 128) → tp.2 - k < fuel → ∀ (H : Heap) (locs : List Loc), va_P D vwCl (wX a cs (tp.1, 0) (f, k) lx ro rs) H → va_S (inX a) s.heap H locs → ∀ ls : Array Slot, lv_has ls 3 [(0, .ref (a 0)), (1, .int (nI (tp.2))), (2, .int (nI (k)))] → W p l e rmX5_takeLetters s m args below meth c H locs 0 0 Q (F0 m 34 ls []) := by
      intro fuel
      induction fuel with
      | zero => intro k f hk hff hsm hfb hf; exact absurd hf (Nat.not_lt_zero _)
      | succ fuel ih =>
        intro k f hk hff hsm hfb hf H locs hP hS ls hl
        refine lv_iload_n hx hb dX5_takeLetters_34 rfl (lv_at hl 2 rfl) ?_
        refine lv_iload_n hx hb dX5_takeLetters_35 rfl (lv_at hl 1 rfl) ?_
        refine nz_cge (a := k) (b := tp.2) (tgt := 78) hx hb dX5_takeLetters_36 (by decide) (by omega) (by omega) (fun c_36 => ?_) (fun c_36 => ?_)
        · refine lv_iconst (v := nI 1) hx hb dX5_takeLetters_78 (by decide +kernel) ?_
          refine nz_top bI_t ?_
          have hbv : bb = true := hbb.mpr ⟨c_27, fun j hj => hsm j (by omega)⟩
          subst hbv
          exact hret 79 ls H locs dX5_takeLetters_79 ⟨(f, k), ⟨⟨by show k ≤ 24; omega, hfb⟩, fun _ => ⟨by show k = tp.2; omega, fun j hj => hff j (by omega)⟩⟩, hP⟩ hS
        · refine lv_aload_n hx hb dX5_takeLetters_39 rfl (lv_at hl 0 rfl) ?_
          refine va_get (D := D) (ci := 5) (v := .ref (a 1)) (C := RX5) (T := TX5) (N := 5) hx hb hts hinX5 hown hK hP 0 rfl rfl 0 (by decide) (hts (.fieldLink RX5 10 "TypoSuggester" "tape" "LTypoSuggester$Tape;") (by decide +kernel)) (fun _ h9 => h9) rfl dX5_takeLetters_40 ?_
          refine va_get (D := D) (ci := 3) (v := .ref (a 6)) (C := RX3) (T := TX3) (N := 2) hx hb hts hinX3 hown hK hP 1 rfl rfl 0 (by decide) (hts (.fieldLink RX5 56 "TypoSuggester$Tape" "bytes" "[B") (by decide +kernel)) (fun _ h9 => h9) rfl dX5_takeLetters_43 ?_
          refine lv_iload_n hx hb dX5_takeLetters_46 rfl (lv_at hl 2 rfl) ?_
          refine nz_baldR (f := tp.1) (k := k) hx hb hK hP 6 0 rfl rfl (by omega) (by decide) dX5_takeLetters_47 ?_
          refine nz_callR (va_runS (As := [.int (tp.1 k)]) (rest := []) ⟨hx, hb, hml, hown, hts⟩ (mX5_isSmallLetter l D a cs (tp.1, 0) (f, k) lx ro rs (tp.1 k)) (va_cwS 1 hts gX5_takeLetters_X5_isSmallLetter rfl rfl rfl (by decide +kernel) ⟨Nat.le_of_ble_eq_true rfl, Nat.le_of_ble_eq_true rfl⟩) (nz_preS hK hP) rfl rfl hl.1 rfl (lv_room (Nat.le_of_ble_eq_true rfl)) dX5_takeLetters_48 ⟨Nat.zero_le _, Nat.zero_le _⟩) ?_
          refine nz_ifneB (tgt := 56) hx hb dX5_takeLetters_51 (by decide) (fun c_51 => ?_) (fun c_51 => ?_)
          · refine lv_aload_n hx hb dX5_takeLetters_56 rfl (lv_at hl 0 rfl) ?_
            refine va_get (D := D) (ci := 5) (v := .ref (a 2)) (C := RX5) (T := TX5) (N := 5) hx hb hts hinX5 hown hK hP 0 rfl rfl 1 (by decide) (hts (.fieldLink RX5 19 "TypoSuggester" "word" "LTypoSuggester$Word;") (by decide +kernel)) (fun _ h9 => h9) rfl dX5_takeLetters_57 ?_
            refine lv_aload_n hx hb dX5_takeLetters_60 rfl (lv_at hl 0 rfl) ?_
            refine va_get (D := D) (ci := 5) (v := .ref (a 1)) (C := RX5) (T := TX5) (N := 5) hx hb hts hinX5 hown hK hP 0 rfl rfl 0 (by decide) (hts (.fieldLink RX5 10 "TypoSuggester" "tape" "LTypoSuggester$Tape;") (by decide +kernel)) (fun _ h9 => h9) rfl dX5_takeLetters_61 ?_
            refine va_get (D := D) (ci := 3) (v := .ref (a 6)) (C := RX3) (T := TX3) (N := 2) hx hb hts hinX3 hown hK hP 1 rfl rfl 0 (by decide) (hts (.fieldLink RX5 56 "TypoSuggester$Tape" "bytes" "[B") (by decide +kernel)) (fun _ h9 => h9) rfl dX5_takeLetters_64 ?_
            refine lv_iload_n hx hb dX5_takeLetters_67 rfl (lv_at hl 2 rfl) ?_
            refine nz_baldR (f := tp.1) (k := k) hx hb hK hP 6 0 rfl rfl (by omega) (by decide) dX5_takeLetters_68 ?_
            refine nz_top (y := nI (qF tp k)) (smB_q c_51).1 ?_
            refine nz_callW (va_runV (As := [.int (nI (qF tp k))]) (rest := []) ⟨hx, hb, hml, hown, hts⟩ (mX4_append l D a cs (tp.1, 0) (f, k) lx ro rs (qF tp k) true ha ⟨by show k ≤ 24; omega, hfb⟩ (smB_q c_51).2 ⟨fun _ => by show k < 24; omega, fun _ => rfl⟩) (cwV 1 hts gX5_takeLetters_X4_append rfl rfl rfl (by decide +kernel) ⟨Nat.le_of_ble_eq_true rfl, Nat.le_of_ble_eq_true rfl⟩) (nz_preV (ci := 4) (q0 := 2) hK hP rfl rfl) rfl rfl hl.1 rfl (lv_room (Nat.le_of_ble_eq_true rfl)) dX5_takeLetters_69 ⟨Nat.zero_le _, Nat.zero_le _⟩) hS (fun _ h => h) (fun H locs hP _ _ hS => ?_)
            have hP : va_P D vwCl (wX a cs (tp.1, 0) (va_up f k (qF tp k), k + 1) lx ro rs) H := hP
            refine lv_iinc (v := nI (k + 1)) (lv' := [(2, .int (nI (k + 1))), (0, .ref (a 0)), (1, .int (nI (tp.2)))]) hx hb dX5_takeLetters_72 hl (k := 2) rfl (nz_inc1 _) (by decide) rfl (fun ls hl => ?_)
            refine lv_goto (tgt := 34) hx hb dX5_takeLetters_75 (by decide) ?_
            exact ih (k + 1) (va_up f k (qF tp k)) (by omega) (up_ext hff) (lt_s hsm c_51) (up_lt hfb (smB_q c_51).2) (by omega) H locs hP hS ls (lv_sub hl [1, 2, 0] rfl)
          · refine lv_iconst (v := nI 0) hx hb dX5_takeLetters_54 (by decide +kernel) ?_
            have hbv : bb = false := by cases bb with | false => rfl | true => exact absurd (hbb.mp rfl) (fun hh => by have h9 := hh.2 k c_36; rw [c_51] at h9; cases h9)
            subst hbv
            refine nz_top bI_f ?_
            exact hret 55 ls H locs dX5_takeLetters_55 ⟨_, ⟨⟨by first | exact Nat.zero_le _ | (show k ≤ 24; omega), by first | exact hW2 | exact hfb⟩, fun h => by cases h⟩, hP⟩ hS
    exact loop (tp.2 - 0 + 1) 0 wd.1 (Nat.zero_le _) (fun j hj => absurd hj (Nat.not_lt_zero _)) (fun j hj => absurd hj (Nat.not_lt_zero _)) hW2 (Nat.lt_succ_self _) H locs hP hS ls (lv_sub hl [2, 1, 0] rfl)
  · refine lv_iconst (v := nI 0) hx hb dX5_takeLetters_30 (by decide +kernel) ?_
    have hbv : bb = false := by cases bb with | false => rfl | true => exact absurd (hbb.mp rfl) (fun hh => by have := hh.1; omega)
    subst hbv
    refine nz_top bI_f ?_
    exact hret 31 ls H locs dX5_takeLetters_31 ⟨_, ⟨⟨by first | exact Nat.zero_le _ | (show k ≤ 24; omega), by first | exact hW2 | exact hfb⟩, fun h => by cases h⟩, hP⟩ hS
abbrev rmX5_takeTerm : Room := { frames := 2, cells := 0, slots := 0, locals := 43 }
set_option maxHeartbeats 4000000 in
set_option maxRecDepth 100000 in
theorem mX5_takeTerm (l : Launch) (D : va_G) (a : Nat → Nat) (cs : Nat → ClassId) (tp : (Nat → Int32) × Nat) (wd : (Nat → Nat) × Nat) (lx : (Nat → Nat) × (Nat → Nat) × (Nat → Nat) × Nat) (ro : Nat → Nat) (rs : (Nat → Nat) × (Nat → Nat) × (Nat → Nat) × (Nat → Nat) × (Nat → Nat) × Nat) (bb : Bool) (ha : wInj a) (hT : tp.2 ≤ 400) (hW : WdB wd) (hbb : bb = true ↔ (goodT tp ∧ 0 < tp.2)) : Met l yX5_takeTerm wsX5_takeTerm rmX5_takeTerm (wdP D vwCl (wX a cs tp wd lx ro rs) (tyX cs) [.ref (a 0)]) (wrQ (some (.int (bI (bb)))) (fun H => ∃ wd2, (WdB wd2 ∧ (bb = true → wd2.2 = tp.2 ∧ ∀ j, j < tp.2 → wd2.1 j = qF tp j)) ∧ va_P D vwCl (wX a cs (tp.1, 0) wd2 lx ro rs) H) (inX a)) 0 0 (inX a) := by
  refine nz_metWi (by decide) rfl (Nat.le_of_ble_eq_true rfl) (bI_nar _) ?_
  intro p e s m args below meth c Q hx hb hml hts hown hP hK hret ls hl
  have hl : lv_has ls 1 [(0, .ref (a 0))] := hl
  have hown : s.vm.findClass RX5 = some m.cls := hown
  have hinX5 : ∀ w ∈ u_ws RX5 TX5 5, w ∈ wsX5_takeTerm := by decide +kernel
  have hinX4 : ∀ w ∈ u_ws RX4 TX4 2, w ∈ wsX5_takeTerm := by decide +kernel
  have hS : va_S (inX a) s.heap s.heap [] := va_S.rf
  obtain ⟨H, hH⟩ : ∃ H, H = s.heap := ⟨_, rfl⟩
  obtain ⟨locs, hlocs⟩ : ∃ locs : List Loc, locs = [] := ⟨_, rfl⟩
  have hP : va_P D vwCl (wX a cs tp wd lx ro rs) H := hH ▸ hP
  have hS : va_S (inX a) s.heap H locs := by rw [hH, hlocs]; exact va_S.rf
  suffices hgo : W p l e rmX5_takeTerm s m args below meth c H locs 0 0 Q (F0 m 0 ls []) by rw [hH, hlocs] at hgo; exact hgo
  clear hH hlocs
  refine lv_aload_n hx hb dX5_takeTerm_0 rfl (lv_at hl 0 rfl) ?_
  refine nz_callW (va_runV (As := []) (rest := []) ⟨hx, hb, hml, hown, hts⟩ (mX5_takeLetters l D a cs tp wd lx ro rs (dB (goodT tp)) ha hT hW dB_iff) (cwV 0 hts gX5_takeTerm_X5_takeLetters rfl rfl rfl (by decide +kernel) ⟨Nat.le_of_ble_eq_true rfl, Nat.le_of_ble_eq_true rfl⟩) (nz_preV (ci := 5) (q0 := 0) hK hP rfl rfl) rfl rfl hl.1 rfl (lv_room (Nat.le_of_ble_eq_true rfl)) dX5_takeTerm_1 ⟨Nat.zero_le _, Nat.zero_le _⟩) hS (fun _ h => h) (fun H locs hP _ _ hS => ?_)
  obtain ⟨wd2_1, hwd2, hP⟩ := hP
  refine nz_ifeqB (tgt := 21) hx hb dX5_takeTerm_4 (by decide) (fun c_4 => ?_) (fun c_4 => ?_)
  · refine lv_iconst (v := nI 0) hx hb dX5_takeTerm_21 (by decide +kernel) ?_
    have hbv : bb = false := by cases bb with | false => rfl | true => exact absurd (hbb.mp rfl) (fun hh => by have h8 := dB_t hh.1; first | exact absurd (c_4.symm.trans h8) (by decide) | (have := (hwd2.2 h8).1; omega))
    subst hbv
    refine nz_top bI_f ?_
    exact hret 22 ls H locs dX5_takeTerm_22 ⟨_, ⟨hwd2.1, fun h => by cases h⟩, hP⟩ hS
  · refine lv_aload_n hx hb dX5_takeTerm_7 rfl (lv_at hl 0 rfl) ?_
    refine va_get (D := D) (ci := 5) (v := .ref (a 2)) (C := RX5) (T := TX5) (N := 5) hx hb hts hinX5 hown hK hP 0 rfl rfl 1 (by decide) (hts (.fieldLink RX5 19 "TypoSuggester" "word" "LTypoSuggester$Word;") (by decide +kernel)) (fun _ h9 => h9) rfl dX5_takeTerm_8 ?_
    refine va_get (D := D) (ci := 4) (v := .int (nI (wd2_1.2))) (C := RX4) (T := TX4) (N := 2) hx hb hts hinX4 hown hK hP 2 rfl rfl 1 (by decide) (hts (.fieldLink RX5 53 "TypoSuggester$Word" "length" "I") (by decide +kernel)) (fun _ h9 => h9) rfl dX5_takeTerm_11 ?_
    refine nz_ifle (a := wd2_1.2) (tgt := 21) hx hb dX5_takeTerm_14 (by decide) (by have := hwd2.1.1; omega) (fun c_14 => ?_) (fun c_14 => ?_)
    · refine lv_iconst (v := nI 0) hx hb dX5_takeTerm_21 (by decide +kernel) ?_
      have hbv : bb = false := by cases bb with | false => rfl | true => exact absurd (hbb.mp rfl) (fun hh => by have h8 := dB_t hh.1; first | exact absurd (c_4.symm.trans h8) (by decide) | (have := (hwd2.2 h8).1; omega))
      subst hbv
      refine nz_top bI_f ?_
      exact hret 22 ls H locs dX5_takeTerm_22 ⟨_, ⟨hwd2.1, fun h => by cases h⟩, hP⟩ hS
    · refine lv_iconst (v := nI 1) hx hb dX5_takeTerm_17 (by decide +kernel) ?_
      refine lv_goto (tgt := 22) hx hb dX5_takeTerm_18 (by decide) ?_
      have hbv : bb = true := hbb.mpr ⟨dB_iff.mp c_4, by have := (hwd2.2 c_4).1; omega⟩
      subst hbv
      refine nz_top bI_t ?_
      exact hret 22 ls H locs dX5_takeTerm_22 ⟨_, ⟨hwd2.1, fun _ => hwd2.2 c_4⟩, hP⟩ hS
abbrev rmX5_takePlace : Room := { frames := 4, cells := 0, slots := 0, locals := 94 }
set_option maxHeartbeats 4000000 in
set_option maxRecDepth 100000 in
theorem mX5_takePlace (l : Launch) (D : va_G) (a : Nat → Nat) (cs : Nat → ClassId) (tp : (Nat → Int32) × Nat) (wd : (Nat → Nat) × Nat) (lx : (Nat → Nat) × (Nat → Nat) × (Nat → Nat) × Nat) (ro : Nat → Nat) (rs : (Nat → Nat) × (Nat → Nat) × (Nat → Nat) × (Nat → Nat) × (Nat → Nat) × Nat) (bb : Bool) (r : Nat) (b1 : Bool) (ha : wInj a) (hI : LxI lx) (hT : tp.2 ≤ 400) (hW : WdB wd) (hbb : bb = true ↔ (goodT tp ∧ 0 < tp.2)) (hr : PLp lx (qF tp) tp.2 r) (hb1 : b1 = true ↔ stdX lx (qF tp) tp.2 r) : Met l yX5_takePlace wsX5_takePlace rmX5_takePlace (wdP D vwCl (wX a cs tp wd lx ro rs) (tyX cs) [.ref (a 0)]) (wrQ (some (.int (bif (bb && b1) then nI r else (-1)))) (fun H => ∃ wd2, WdB wd2 ∧ va_P D vwCl (wX a cs (tp.1, 0) wd2 lx ro rs) H) (inX a)) 0 0 (inX a) := by
  refine nz_metWi (by decide) rfl (Nat.le_of_ble_eq_true rfl) rfl ?_
  intro p e s m args below meth c Q hx hb hml hts hown hP hK hret ls hl
  have hl : lv_has ls 2 [(0, .ref (a 0))] := hl
  have hown : s.vm.findClass RX5 = some m.cls := hown
  have hinX5 : ∀ w ∈ u_ws RX5 TX5 5, w ∈ wsX5_takePlace := by decide +kernel
  have hS : va_S (inX a) s.heap s.heap [] := va_S.rf
  obtain ⟨H, hH⟩ : ∃ H, H = s.heap := ⟨_, rfl⟩
  obtain ⟨locs, hlocs⟩ : ∃ locs : List Loc, locs = [] := ⟨_, rfl⟩
  have hP : va_P D vwCl (wX a cs tp wd lx ro rs) H := hH ▸ hP
  have hS : va_S (inX a) s.heap H locs := by rw [hH, hlocs]; exact va_S.rf
  suffices hgo : W p l e rmX5_takePlace s m args below meth c H locs 0 0 Q (F0 m 0 ls []) by rw [hH, hlocs] at hgo; exact hgo
  clear hH hlocs
  refine lv_aload_n hx hb dX5_takePlace_0 rfl (lv_at hl 0 rfl) ?_
  refine nz_callW (va_runV (As := []) (rest := []) ⟨hx, hb, hml, hown, hts⟩ (mX5_takeTerm l D a cs tp wd lx ro rs bb ha hT hW hbb) (cwV 0 hts gX5_takePlace_X5_takeTerm rfl rfl rfl (by decide +kernel) ⟨Nat.le_of_ble_eq_true rfl, Nat.le_of_ble_eq_true rfl⟩) (nz_preV (ci := 5) (q0 := 0) hK hP rfl rfl) rfl rfl hl.1 rfl (lv_room (Nat.le_of_ble_eq_true rfl)) dX5_takePlace_1 ⟨Nat.zero_le _, Nat.zero_le _⟩) hS (fun _ h => h) (fun H locs hP _ _ hS => ?_)
  obtain ⟨wd2_1, hwd2, hP⟩ := hP
  refine nz_ifneB (tgt := 9) hx hb dX5_takePlace_4 (by decide) (fun c_4 => ?_) (fun c_4 => ?_)
  · refine lv_aload_n hx hb dX5_takePlace_9 rfl (lv_at hl 0 rfl) ?_
    refine va_get (D := D) (ci := 5) (v := .ref (a 3)) (C := RX5) (T := TX5) (N := 5) hx hb hts hinX5 hown hK hP 0 rfl rfl 2 (by decide) (hts (.fieldLink RX5 26 "TypoSuggester" "lexicon" "LTypoSuggester$Lexicon;") (by decide +kernel)) (fun _ h9 => h9) rfl dX5_takePlace_10 ?_
    refine lv_aload_n hx hb dX5_takePlace_13 rfl (lv_at hl 0 rfl) ?_
    refine va_get (D := D) (ci := 5) (v := .ref (a 2)) (C := RX5) (T := TX5) (N := 5) hx hb hts hinX5 hown hK hP 0 rfl rfl 1 (by decide) (hts (.fieldLink RX5 19 "TypoSuggester" "word" "LTypoSuggester$Word;") (by decide +kernel)) (fun _ h9 => h9) rfl dX5_takePlace_14 ?_
    refine nz_callR (va_runV (As := [.ref (a 2)]) (rest := []) ⟨hx, hb, hml, hown, hts⟩ (mX0_placeOf l D a cs (tp.1, 0) wd2_1 lx ro rs r hI.1 hwd2.1 (plp_congr hr (hwd2.2 c_4))) (cwV 1 hts gX5_takePlace_X0_placeOf rfl rfl rfl (by decide +kernel) ⟨Nat.le_of_ble_eq_true rfl, Nat.le_of_ble_eq_true rfl⟩) (nz_preV (ci := 0) (q0 := 3) hK hP rfl rfl) rfl rfl hl.1 rfl (lv_room (Nat.le_of_ble_eq_true rfl)) dX5_takePlace_17 ⟨Nat.zero_le _, Nat.zero_le _⟩) ?_
    refine lv_istore_n (lv' := [(1, .int (nI (r))), (0, .ref (a 0))]) hx hb dX5_takePlace_20 rfl hl (by decide) rfl (fun ls hl => ?_)
    refine lv_aload_n hx hb dX5_takePlace_21 rfl (lv_at hl 1 rfl) ?_
    refine va_get (D := D) (ci := 5) (v := .ref (a 3)) (C := RX5) (T := TX5) (N := 5) hx hb hts hinX5 hown hK hP 0 rfl rfl 2 (by decide) (hts (.fieldLink RX5 26 "TypoSuggester" "lexicon" "LTypoSuggester$Lexicon;") (by decide +kernel)) (fun _ h9 => h9) rfl dX5_takePlace_22 ?_
    refine lv_iload_n hx hb dX5_takePlace_25 rfl (lv_at hl 0 rfl) ?_
    refine lv_aload_n hx hb dX5_takePlace_26 rfl (lv_at hl 1 rfl) ?_
    refine va_get (D := D) (ci := 5) (v := .ref (a 2)) (C := RX5) (T := TX5) (N := 5) hx hb hts hinX5 hown hK hP 0 rfl rfl 1 (by decide) (hts (.fieldLink RX5 19 "TypoSuggester" "word" "LTypoSuggester$Word;") (by decide +kernel)) (fun _ h9 => h9) rfl dX5_takePlace_27 ?_
    refine nz_callR (va_runV (As := [.int (nI (r)), .ref (a 2)]) (rest := []) ⟨hx, hb, hml, hown, hts⟩ (mX0_standsAt l D a cs (tp.1, 0) wd2_1 lx ro rs r b1 hI.1 hwd2.1 hr.1 (hb1.trans (stdX_congr2 (hwd2.2 c_4)))) (cwV 2 hts gX5_takePlace_X0_standsAt rfl rfl rfl (by decide +kernel) ⟨Nat.le_of_ble_eq_true rfl, Nat.le_of_ble_eq_true rfl⟩) (nz_preV (ci := 0) (q0 := 3) hK hP rfl rfl) rfl rfl hl.1 rfl (lv_room (Nat.le_of_ble_eq_true rfl)) dX5_takePlace_30 ⟨Nat.zero_le _, Nat.zero_le _⟩) ?_
    refine nz_ifeqB (tgt := 40) hx hb dX5_takePlace_33 (by decide) (fun c_33 => ?_) (fun c_33 => ?_)
    · refine lv_iconst (v := (-1)) hx hb dX5_takePlace_40 (by decide +kernel) ?_
      subst c_4
      subst c_33
      exact hret 41 ls H locs dX5_takePlace_41 ⟨_, hwd2.1, hP⟩ hS
    · refine lv_iload_n hx hb dX5_takePlace_36 rfl (lv_at hl 0 rfl) ?_
      refine lv_goto (tgt := 41) hx hb dX5_takePlace_37 (by decide) ?_
      subst c_4
      subst c_33
      exact hret 41 ls H locs dX5_takePlace_41 ⟨_, hwd2.1, hP⟩ hS
  · refine lv_iconst (v := (-1)) hx hb dX5_takePlace_7 (by decide +kernel) ?_
    subst c_4
    exact hret 8 ls H locs dX5_takePlace_8 ⟨_, hwd2.1, hP⟩ hS
abbrev rmX5_takeUse : Room := { frames := 5, cells := 0, slots := 0, locals := 117 }
set_option maxHeartbeats 4000000 in
set_option maxRecDepth 100000 in
theorem mX5_takeUse (l : Launch) (D : va_G) (a : Nat → Nat) (cs : Nat → ClassId) (tp : (Nat → Int32) × Nat) (wd : (Nat → Nat) × Nat) (lx : (Nat → Nat) × (Nat → Nat) × (Nat → Nat) × Nat) (ro : Nat → Nat) (rs : (Nat → Nat) × (Nat → Nat) × (Nat → Nat) × (Nat → Nat) × (Nat → Nat) × Nat) (wt : Nat) (ha : wInj a) (hI : LxI lx) (hW : WdB wd) (hwt : wt ≤ 1000000) : Met l yX5_takeUse wsX5_takeUse rmX5_takeUse (wdP D vwCl (wX a cs tp wd lx ro rs) (tyX cs) [.ref (a 0), .int (nI (wt))]) (wrQ (some (.int (nI ((useX lx wd.1 wd.2 wt).2)))) (fun H => va_P D vwCl (wX a cs tp (wd.1, 0) ((useX lx wd.1 wd.2 wt).1) ro rs) H) (inX a)) 0 0 (inX a) := by
  obtain ⟨hW1, hW2⟩ := id hW
  refine nz_metWi (by decide) rfl (Nat.le_of_ble_eq_true rfl) rfl ?_
  intro p e s m args below meth c Q hx hb hml hts hown hP hK hret ls hl
  have hl : lv_has ls 3 [(0, .ref (a 0)), (1, .int (nI (wt)))] := hl
  have hown : s.vm.findClass RX5 = some m.cls := hown
  have hinX5 : ∀ w ∈ u_ws RX5 TX5 5, w ∈ wsX5_takeUse := by decide +kernel
  have hinX4 : ∀ w ∈ u_ws RX4 TX4 2, w ∈ wsX5_takeUse := by decide +kernel
  have hS : va_S (inX a) s.heap s.heap [] := va_S.rf
  obtain ⟨H, hH⟩ : ∃ H, H = s.heap := ⟨_, rfl⟩
  obtain ⟨locs, hlocs⟩ : ∃ locs : List Loc, locs = [] := ⟨_, rfl⟩
  have hP : va_P D vwCl (wX a cs tp wd lx ro rs) H := hH ▸ hP
  have hS : va_S (inX a) s.heap H locs := by rw [hH, hlocs]; exact va_S.rf
  suffices hgo : W p l e rmX5_takeUse s m args below meth c H locs 0 0 Q (F0 m 0 ls []) by rw [hH, hlocs] at hgo; exact hgo
  clear hH hlocs
  refine lv_aload_n hx hb dX5_takeUse_0 rfl (lv_at hl 0 rfl) ?_
  refine va_get (D := D) (ci := 5) (v := .ref (a 2)) (C := RX5) (T := TX5) (N := 5) hx hb hts hinX5 hown hK hP 0 rfl rfl 1 (by decide) (hts (.fieldLink RX5 19 "TypoSuggester" "word" "LTypoSuggester$Word;") (by decide +kernel)) (fun _ h9 => h9) rfl dX5_takeUse_1 ?_
  refine va_get (D := D) (ci := 4) (v := .int (nI (wd.2))) (C := RX4) (T := TX4) (N := 2) hx hb hts hinX4 hown hK hP 2 rfl rfl 1 (by decide) (hts (.fieldLink RX5 53 "TypoSuggester$Word" "length" "I") (by decide +kernel)) (fun _ h9 => h9) rfl dX5_takeUse_4 ?_
  refine nz_ifle (a := wd.2) (tgt := 29) hx hb dX5_takeUse_7 (by decide) (by omega) (fun c_7 => ?_) (fun c_7 => ?_)
  · refine lv_iconst (v := nI 0) hx hb dX5_takeUse_29 (by decide +kernel) ?_
    refine lv_istore_n (lv' := [(2, .int (nI (0))), (0, .ref (a 0)), (1, .int (nI (wt)))]) hx hb dX5_takeUse_30 rfl hl (by decide) rfl (fun ls hl => ?_)
    refine lv_aload_n hx hb dX5_takeUse_31 rfl (lv_at hl 1 rfl) ?_
    refine va_get (D := D) (ci := 5) (v := .ref (a 2)) (C := RX5) (T := TX5) (N := 5) hx hb hts hinX5 hown hK hP 0 rfl rfl 1 (by decide) (hts (.fieldLink RX5 19 "TypoSuggester" "word" "LTypoSuggester$Word;") (by decide +kernel)) (fun _ h9 => h9) rfl dX5_takeUse_32 ?_
    refine lv_iconst (v := nI 0) hx hb dX5_takeUse_35 (by decide +kernel) ?_
    refine nz_put (D := D) (ci := 4) (v := .int (nI (0))) (ty := .int) (ws' := wX a cs tp (wd.1, 0) lx ro rs) (C := RX4) (T := TX4) (N := 2) hx hb hts hinX4 tyX4 tyX4_ok nmX4 hown hK hP (wX_D ha) hS 2 rfl rfl 1 (by decide) (hts (.fieldLink RX5 53 "TypoSuggester$Word" "length" "I") (by decide +kernel)) (fun _ h9 => h9) rfl (by decide +kernel) rfl rfl (Nat.le_of_ble_eq_true rfl) dX5_takeUse_36 rfl (fun H locs hP hS => ?_)
    refine lv_iload_n hx hb dX5_takeUse_39 rfl (lv_at hl 0 rfl) ?_
    refine nz_ifeq (a := 0) (tgt := 47) hx hb dX5_takeUse_40 (by decide) (by omega) (fun _ => ?_) (fun h => absurd h (by decide))
    refine lv_iconst (v := nI 0) hx hb dX5_takeUse_47 (by decide +kernel) ?_
    first | rw [useX_0 c_7] at hret | rw [useX_pos c_7, c_22] at hret
    exact hret 48 ls H locs dX5_takeUse_48 hP hS
  · refine lv_aload_n hx hb dX5_takeUse_10 rfl (lv_at hl 0 rfl) ?_
    refine va_get (D := D) (ci := 5) (v := .ref (a 3)) (C := RX5) (T := TX5) (N := 5) hx hb hts hinX5 hown hK hP 0 rfl rfl 2 (by decide) (hts (.fieldLink RX5 26 "TypoSuggester" "lexicon" "LTypoSuggester$Lexicon;") (by decide +kernel)) (fun _ h9 => h9) rfl dX5_takeUse_11 ?_
    refine lv_aload_n hx hb dX5_takeUse_14 rfl (lv_at hl 0 rfl) ?_
    refine va_get (D := D) (ci := 5) (v := .ref (a 2)) (C := RX5) (T := TX5) (N := 5) hx hb hts hinX5 hown hK hP 0 rfl rfl 1 (by decide) (hts (.fieldLink RX5 19 "TypoSuggester" "word" "LTypoSuggester$Word;") (by decide +kernel)) (fun _ h9 => h9) rfl dX5_takeUse_15 ?_
    refine lv_iload_n hx hb dX5_takeUse_18 rfl (lv_at hl 1 rfl) ?_
    refine nz_callW (va_runV (As := [.ref (a 2), .int (nI (wt))]) (rest := []) ⟨hx, hb, hml, hown, hts⟩ (mX0_grow l D a cs tp wd lx ro rs wt (plX lx wd.1 wd.2) (dB (stdX lx wd.1 wd.2 (plX lx wd.1 wd.2))) (dB (roomX lx wd.2)) ha hI.1 hW hwt (plX_is hI _ _) dB_iff dB_iff) (cwV 2 hts gX5_takeUse_X0_grow rfl rfl rfl (by decide +kernel) ⟨Nat.le_of_ble_eq_true rfl, Nat.le_of_ble_eq_true rfl⟩) (nz_preV (ci := 0) (q0 := 3) hK hP rfl rfl) rfl rfl hl.1 rfl (lv_room (Nat.le_of_ble_eq_true rfl)) dX5_takeUse_19 ⟨Nat.zero_le _, Nat.zero_le _⟩) hS (fun _ h => h) (fun H locs hP _ _ hS => ?_)
    refine nz_ifeqB (tgt := 29) hx hb dX5_takeUse_22 (by decide) (fun c_22 => ?_) (fun c_22 => ?_)
    · refine lv_iconst (v := nI 0) hx hb dX5_takeUse_29 (by decide +kernel) ?_
      refine lv_istore_n (lv' := [(2, .int (nI (0))), (0, .ref (a 0)), (1, .int (nI (wt)))]) hx hb dX5_takeUse_30 rfl hl (by decide) rfl (fun ls hl => ?_)
      refine lv_aload_n hx hb dX5_takeUse_31 rfl (lv_at hl 1 rfl) ?_
      refine va_get (D := D) (ci := 5) (v := .ref (a 2)) (C := RX5) (T := TX5) (N := 5) hx hb hts hinX5 hown hK hP 0 rfl rfl 1 (by decide) (hts (.fieldLink RX5 19 "TypoSuggester" "word" "LTypoSuggester$Word;") (by decide +kernel)) (fun _ h9 => h9) rfl dX5_takeUse_32 ?_
      refine lv_iconst (v := nI 0) hx hb dX5_takeUse_35 (by decide +kernel) ?_
      refine nz_put (D := D) (ci := 4) (v := .int (nI (0))) (ty := .int) (ws' := wX a cs tp (wd.1, 0) (bif (dB (stdX lx wd.1 wd.2 (plX lx wd.1 wd.2))) then lxAdd lx (plX lx wd.1 wd.2) wt else (bif (dB (roomX lx wd.2)) then lxIns lx wd (plX lx wd.1 wd.2) wt else lx)) ro rs) (C := RX4) (T := TX4) (N := 2) hx hb hts hinX4 tyX4 tyX4_ok nmX4 hown hK hP (wX_D ha) hS 2 rfl rfl 1 (by decide) (hts (.fieldLink RX5 53 "TypoSuggester$Word" "length" "I") (by decide +kernel)) (fun _ h9 => h9) rfl (by decide +kernel) rfl rfl (Nat.le_of_ble_eq_true rfl) dX5_takeUse_36 rfl (fun H locs hP hS => ?_)
      refine lv_iload_n hx hb dX5_takeUse_39 rfl (lv_at hl 0 rfl) ?_
      refine nz_ifeq (a := 0) (tgt := 47) hx hb dX5_takeUse_40 (by decide) (by omega) (fun _ => ?_) (fun h => absurd h (by decide))
      refine lv_iconst (v := nI 0) hx hb dX5_takeUse_47 (by decide +kernel) ?_
      first | rw [useX_0 c_7] at hret | rw [useX_pos c_7, c_22] at hret
      exact hret 48 ls H locs dX5_takeUse_48 hP hS
    · refine lv_iconst (v := nI 1) hx hb dX5_takeUse_25 (by decide +kernel) ?_
      refine lv_goto (tgt := 30) hx hb dX5_takeUse_26 (by decide) ?_
      refine lv_istore_n (lv' := [(2, .int (nI (1))), (0, .ref (a 0)), (1, .int (nI (wt)))]) hx hb dX5_takeUse_30 rfl hl (by decide) rfl (fun ls hl => ?_)
      refine lv_aload_n hx hb dX5_takeUse_31 rfl (lv_at hl 1 rfl) ?_
      refine va_get (D := D) (ci := 5) (v := .ref (a 2)) (C := RX5) (T := TX5) (N := 5) hx hb hts hinX5 hown hK hP 0 rfl rfl 1 (by decide) (hts (.fieldLink RX5 19 "TypoSuggester" "word" "LTypoSuggester$Word;") (by decide +kernel)) (fun _ h9 => h9) rfl dX5_takeUse_32 ?_
      refine lv_iconst (v := nI 0) hx hb dX5_takeUse_35 (by decide +kernel) ?_
      refine nz_put (D := D) (ci := 4) (v := .int (nI (0))) (ty := .int) (ws' := wX a cs tp (wd.1, 0) (bif (dB (stdX lx wd.1 wd.2 (plX lx wd.1 wd.2))) then lxAdd lx (plX lx wd.1 wd.2) wt else (bif (dB (roomX lx wd.2)) then lxIns lx wd (plX lx wd.1 wd.2) wt else lx)) ro rs) (C := RX4) (T := TX4) (N := 2) hx hb hts hinX4 tyX4 tyX4_ok nmX4 hown hK hP (wX_D ha) hS 2 rfl rfl 1 (by decide) (hts (.fieldLink RX5 53 "TypoSuggester$Word" "length" "I") (by decide +kernel)) (fun _ h9 => h9) rfl (by decide +kernel) rfl rfl (Nat.le_of_ble_eq_true rfl) dX5_takeUse_36 rfl (fun H locs hP hS => ?_)
      refine lv_iload_n hx hb dX5_takeUse_39 rfl (lv_at hl 0 rfl) ?_
      refine nz_ifeq (a := 1) (tgt := 47) hx hb dX5_takeUse_40 (by decide) (by omega) (fun h => absurd h (by decide)) (fun _ => ?_)
      refine lv_iconst (v := nI 1) hx hb dX5_takeUse_43 (by decide +kernel) ?_
      refine lv_goto (tgt := 48) hx hb dX5_takeUse_44 (by decide) ?_
      first | rw [useX_0 c_7] at hret | rw [useX_pos c_7, c_22] at hret
      exact hret 48 ls H locs dX5_takeUse_48 hP hS
abbrev rmX5_learn : Room := { frames := 6, cells := 0, slots := 0, locals := 139 }
set_option maxHeartbeats 4000000 in
set_option maxRecDepth 100000 in
theorem mX5_learn (l : Launch) (D : va_G) (a : Nat → Nat) (cs : Nat → ClassId) (tp : (Nat → Int32) × Nat) (wd : (Nat → Nat) × Nat) (lx : (Nat → Nat) × (Nat → Nat) × (Nat → Nat) × Nat) (ro : Nat → Nat) (rs : (Nat → Nat) × (Nat → Nat) × (Nat → Nat) × (Nat → Nat) × (Nat → Nat) × Nat) (x : Int32) (ha : wInj a) (hI : LxI lx) (hT : tp.2 ≤ 400) (hW : WdB wd) : Met l yX5_learn wsX5_learn rmX5_learn (wdP D vwCl (wX a cs tp wd lx ro rs) (tyX cs) [.ref (a 0), .int (x)]) (wrQ (some (.int (lrnI lx tp x))) (fun H => ∃ wd2, WdB wd2 ∧ va_P D vwCl (wX a cs (tp.1, lrnT tp x) wd2 (lrnL lx tp x) ro rs) H) (inX a)) 0 0 (inX a) := by
  obtain ⟨hW1, hW2⟩ := id hW
  refine nz_metWi (by decide) rfl (Nat.le_of_ble_eq_true rfl) rfl ?_
  intro p e s m args below meth c Q hx hb hml hts hown hP hK hret ls hl
  have hl : lv_has ls 5 [(0, .ref (a 0)), (1, .int (x))] := hl
  have hown : s.vm.findClass RX5 = some m.cls := hown
  have hinX5 : ∀ w ∈ u_ws RX5 TX5 5, w ∈ wsX5_learn := by decide +kernel
  have hinX4 : ∀ w ∈ u_ws RX4 TX4 2, w ∈ wsX5_learn := by decide +kernel
  have hinX3 : ∀ w ∈ u_ws RX3 TX3 2, w ∈ wsX5_learn := by decide +kernel
  have hS : va_S (inX a) s.heap s.heap [] := va_S.rf
  obtain ⟨H, hH⟩ : ∃ H, H = s.heap := ⟨_, rfl⟩
  obtain ⟨locs, hlocs⟩ : ∃ locs : List Loc, locs = [] := ⟨_, rfl⟩
  have hP : va_P D vwCl (wX a cs tp wd lx ro rs) H := hH ▸ hP
  have hS : va_S (inX a) s.heap H locs := by rw [hH, hlocs]; exact va_S.rf
  suffices hgo : W p l e rmX5_learn s m args below meth c H locs 0 0 Q (F0 m 0 ls []) by rw [hH, hlocs] at hgo; exact hgo
  clear hH hlocs
  refine lv_iload_n hx hb dX5_learn_0 rfl (lv_at hl 1 rfl) ?_
  refine lv_if_lt (tgt := 10) hx hb dX5_learn_1 (by decide) (fun c_1 => ?_) (fun c_1 => ?_)
  · have hno : ¬ lrnOk x := fun h => h.1 c_1
    refine lv_iconst (v := (-1)) hx hb dX5_learn_10 (by decide +kernel) ?_
    have hok : dB (lrnOk x) = false := dB_f hno
    rw [show lrnI lx tp x = -1 by unfold lrnI; rw [hok]; rfl, show lrnL lx tp x = lx by unfold lrnL; rw [hok]; rfl, show lrnT tp x = tp.2 by unfold lrnT; rw [hok]; rfl] at hret
    exact hret 11 ls H locs dX5_learn_11 ⟨_, hW, hP⟩ hS
  · obtain ⟨w1, hw1, rfl⟩ := nI_of c_1
    refine lv_iload_n hx hb dX5_learn_4 rfl (lv_at hl 1 rfl) ?_
    refine lv_ldc (v := nI 1000000) hx hb hown (hts (.constant RX5 52 (1000000)) (by decide +kernel)) dX5_learn_5 ?_
    refine nz_cle (a := w1) (b := 1000000) (tgt := 12) hx hb dX5_learn_7 (by decide) (by omega) (by omega) (fun c_7 => ?_) (fun c_7 => ?_)
    · refine lv_iconst (v := nI 0) hx hb dX5_learn_12 (by decide +kernel) ?_
      refine lv_istore_n (lv' := [(2, .int (nI (0))), (0, .ref (a 0)), (1, .int (nI (w1)))]) hx hb dX5_learn_13 rfl hl (by decide) rfl (fun ls hl => ?_)
      refine lv_aload_n hx hb dX5_learn_14 rfl (lv_at hl 1 rfl) ?_
      refine va_get (D := D) (ci := 5) (v := .ref (a 2)) (C := RX5) (T := TX5) (N := 5) hx hb hts hinX5 hown hK hP 0 rfl rfl 1 (by decide) (hts (.fieldLink RX5 19 "TypoSuggester" "word" "LTypoSuggester$Word;") (by decide +kernel)) (fun _ h9 => h9) rfl dX5_learn_15 ?_
      refine lv_iconst (v := nI 0) hx hb dX5_learn_18 (by decide +kernel) ?_
      refine nz_put (D := D) (ci := 4) (v := .int (nI (0))) (ty := .int) (ws' := wX a cs tp (wd.1, 0) lx ro rs) (C := RX4) (T := TX4) (N := 2) hx hb hts hinX4 tyX4 tyX4_ok nmX4 hown hK hP (wX_D ha) hS 2 rfl rfl 1 (by decide) (hts (.fieldLink RX5 53 "TypoSuggester$Word" "length" "I") (by decide +kernel)) (fun _ h9 => h9) rfl (by decide +kernel) rfl rfl (Nat.le_of_ble_eq_true rfl) dX5_learn_19 rfl (fun H locs hP hS => ?_)
      refine lv_iconst (v := nI 0) hx hb dX5_learn_22 (by decide +kernel) ?_
      refine lv_istore_n (lv' := [(3, .int (nI (0))), (2, .int (nI (0))), (0, .ref (a 0)), (1, .int (nI (w1)))]) hx hb dX5_learn_23 rfl hl (by decide) rfl (fun ls hl => ?_)
      have loop : ∀ (fuel : Nat) (k : Nat) (L : Nat) (lx2 : (Nat → Nat) × (Nat → Nat) × (Nat → Nat) × Nat) (c2 : Nat) (f : Nat → Nat), (k ≤ tp.2) → (L ≤ k) → (LxI lx2) → (∀ j, j < min L 24 → f j = lowN (tp.1 (k - L + j))) → (∀ j, f j < 128) → (c2 ≤ k) → (lrn (fun y g n => useX y g n w1) (fun i => lowN (tp.1 i)) (tp.2 - k) k L lx2 c2 = lrnA lx tp w1) → tp.2 - k < fuel → ∀ (H : Heap) (locs : List Loc), va_P D vwCl (wX a cs tp (f, min L 24) lx2 ro rs) H → va_S (inX a) s.heap H locs → ∀ ls : Array Slot, lv_has ls 5 [(0, .ref (a 0)), (1, .int (nI (w1))), (2, .int (nI (c2))), (3, .int (nI (k)))] → W p l e rmX5_learn s m args below meth c H locs 0 0 Q (F0 m 24 ls []) := by
        intro fuel
        induction fuel with
        | zero => intro k L lx2 c2 f hk hL hI2 hff hfb hc2 hfin hf; exact absurd hf (Nat.not_lt_zero _)
        | succ fuel ih =>
          intro k L lx2 c2 f hk hL hI2 hff hfb hc2 hfin hf H locs hP hS ls hl
          have hu := useX_inv (wt := w1) hI2 (f := f) (len := min L 24) ⟨by show min L 24 ≤ 24; omega, hfb⟩ (by omega)
          have hW9 : WdB (f, min L 24) := ⟨by show min L 24 ≤ 24; omega, hfb⟩
          refine lv_iload_n hx hb dX5_learn_24 rfl (lv_at hl 3 rfl) ?_
          refine lv_aload_n hx hb dX5_learn_25 rfl (lv_at hl 0 rfl) ?_
          refine va_get (D := D) (ci := 5) (v := .ref (a 1)) (C := RX5) (T := TX5) (N := 5) hx hb hts hinX5 hown hK hP 0 rfl rfl 0 (by decide) (hts (.fieldLink RX5 10 "TypoSuggester" "tape" "LTypoSuggester$Tape;") (by decide +kernel)) (fun _ h9 => h9) rfl dX5_learn_26 ?_
          refine va_get (D := D) (ci := 3) (v := .int (nI (tp.2))) (C := RX3) (T := TX3) (N := 2) hx hb hts hinX3 hown hK hP 1 rfl rfl 1 (by decide) (hts (.fieldLink RX5 48 "TypoSuggester$Tape" "size" "I") (by decide +kernel)) (fun _ h9 => h9) rfl dX5_learn_29 ?_
          refine nz_cge (a := k) (b := tp.2) (tgt := 81) hx hb dX5_learn_32 (by decide) (by omega) (by omega) (fun c_32 => ?_) (fun c_32 => ?_)
          · refine lv_iload_n hx hb dX5_learn_81 rfl (lv_at hl 2 rfl) ?_
            refine lv_aload_n hx hb dX5_learn_82 rfl (lv_at hl 0 rfl) ?_
            refine lv_iload_n hx hb dX5_learn_83 rfl (lv_at hl 1 rfl) ?_
            refine nz_callW (va_runV (As := [.int (nI (w1))]) (rest := [.int (nI (c2))]) ⟨hx, hb, hml, hown, hts⟩ (mX5_takeUse l D a cs tp (f, min L 24) lx2 ro rs w1 ha hI2 hW9 c_7) (cwV 1 hts gX5_learn_X5_takeUse rfl rfl rfl (by decide +kernel) ⟨Nat.le_of_ble_eq_true rfl, Nat.le_of_ble_eq_true rfl⟩) (nz_preV (ci := 5) (q0 := 0) hK hP rfl rfl) rfl rfl hl.1 rfl (lv_room (Nat.le_of_ble_eq_true rfl)) dX5_learn_84 ⟨Nat.zero_le _, Nat.zero_le _⟩) hS (fun _ h => h) (fun H locs hP _ _ hS => ?_)
            refine nz_iadd (a := c2) (b := (useX lx2 f (min L 24) w1).2) hx hb dX5_learn_87 ?_
            refine nz_top (y := nI (c2 + ((useX lx2 f (min L 24) w1).2))) (by rfl) ?_
            refine lv_istore_n (lv' := [(2, .int (nI (c2 + ((useX lx2 f (min L 24) w1).2)))), (0, .ref (a 0)), (1, .int (nI (w1))), (3, .int (nI (k)))]) hx hb dX5_learn_88 rfl hl (by decide) rfl (fun ls hl => ?_)
            refine lv_aload_n hx hb dX5_learn_89 rfl (lv_at hl 1 rfl) ?_
            refine va_get (D := D) (ci := 5) (v := .ref (a 1)) (C := RX5) (T := TX5) (N := 5) hx hb hts hinX5 hown hK hP 0 rfl rfl 0 (by decide) (hts (.fieldLink RX5 10 "TypoSuggester" "tape" "LTypoSuggester$Tape;") (by decide +kernel)) (fun _ h9 => h9) rfl dX5_learn_90 ?_
            refine lv_iconst (v := nI 0) hx hb dX5_learn_93 (by decide +kernel) ?_
            refine nz_put (D := D) (ci := 3) (v := .int (nI (0))) (ty := .int) (ws' := wX a cs (tp.1, 0) (f, 0) ((useX lx2 f (min L 24) w1).1) ro rs) (C := RX3) (T := TX3) (N := 2) hx hb hts hinX3 tyX3 tyX3_ok nmX3 hown hK hP (wX_D ha) hS 1 rfl rfl 1 (by decide) (hts (.fieldLink RX5 48 "TypoSuggester$Tape" "size" "I") (by decide +kernel)) (fun _ h9 => h9) rfl (by decide +kernel) rfl rfl (Nat.le_of_ble_eq_true rfl) dX5_learn_94 rfl (fun H locs hP hS => ?_)
            refine lv_iload_n hx hb dX5_learn_97 rfl (lv_at hl 0 rfl) ?_
            have hok : dB (lrnOk (nI w1)) = true := dB_t ⟨nI_pos hw1, by rw [nI_clamp hw1]; exact c_7⟩
            rw [show tp.2 - k = 0 by omega] at hfin
            have hfn : ((useX lx2 f (min L 24) w1).1, c2 + (useX lx2 f (min L 24) w1).2) = lrnA lx tp w1 := by rw [← hfin, useX_congr hI2 hff]; rfl
            rw [show lrnI lx tp (nI w1) = nI (c2 + (useX lx2 f (min L 24) w1).2) by unfold lrnI; rw [hok, nI_clamp hw1, ← hfn]; rfl, show lrnL lx tp (nI w1) = (useX lx2 f (min L 24) w1).1 by unfold lrnL; rw [hok, nI_clamp hw1, ← hfn]; rfl, show lrnT tp (nI w1) = 0 by unfold lrnT; rw [hok]; rfl] at hret
            exact hret 98 ls H locs dX5_learn_98 ⟨_, ⟨Nat.zero_le _, hfb⟩, hP⟩ hS
          · refine lv_aload_n hx hb dX5_learn_35 rfl (lv_at hl 0 rfl) ?_
            refine va_get (D := D) (ci := 5) (v := .ref (a 1)) (C := RX5) (T := TX5) (N := 5) hx hb hts hinX5 hown hK hP 0 rfl rfl 0 (by decide) (hts (.fieldLink RX5 10 "TypoSuggester" "tape" "LTypoSuggester$Tape;") (by decide +kernel)) (fun _ h9 => h9) rfl dX5_learn_36 ?_
            refine va_get (D := D) (ci := 3) (v := .ref (a 6)) (C := RX3) (T := TX3) (N := 2) hx hb hts hinX3 hown hK hP 1 rfl rfl 0 (by decide) (hts (.fieldLink RX5 56 "TypoSuggester$Tape" "bytes" "[B") (by decide +kernel)) (fun _ h9 => h9) rfl dX5_learn_39 ?_
            refine lv_iload_n hx hb dX5_learn_42 rfl (lv_at hl 3 rfl) ?_
            refine nz_baldR (f := tp.1) (k := k) hx hb hK hP 6 0 rfl rfl (by omega) (by decide) dX5_learn_43 ?_
            refine nz_callR (va_runS (As := [.int (tp.1 k)]) (rest := []) ⟨hx, hb, hml, hown, hts⟩ (mX5_smallLetter l D a cs tp (f, min L 24) lx2 ro rs (tp.1 k)) (va_cwS 1 hts gX5_learn_X5_smallLetter rfl rfl rfl (by decide +kernel) ⟨Nat.le_of_ble_eq_true rfl, Nat.le_of_ble_eq_true rfl⟩) (nz_preS hK hP) rfl rfl hl.1 rfl (lv_room (Nat.le_of_ble_eq_true rfl)) dX5_learn_44 ⟨Nat.zero_le _, Nat.zero_le _⟩) ?_
            refine lv_istore (lv' := [(4, .int (smI (tp.1 k))), (0, .ref (a 0)), (1, .int (nI (w1))), (2, .int (nI (c2))), (3, .int (nI (k)))]) hx hb dX5_learn_47 hl (by decide) rfl (fun ls hl => ?_)
            refine lv_iload hx hb dX5_learn_49 (lv_at hl 0 rfl) ?_
            refine lv_iconst (v := (-1)) hx hb dX5_learn_51 (by decide +kernel) ?_
            refine lv_icmp_eq (tgt := 67) hx hb dX5_learn_52 (by decide) (fun c_52 => ?_) (fun c_52 => ?_)
            · have hlo : lowN (tp.1 k) = 0 := (lowN_or (tp.1 k)).elim (fun z => z.2) (fun z => by rw [z.2.2] at c_52; exact absurd c_52 (fun h9 => nI_pos (n := lowN (tp.1 k)) (by omega) (by rw [h9]; decide +kernel)))
              refine lv_iload_n hx hb dX5_learn_67 rfl (lv_at hl 3 rfl) ?_
              refine lv_aload_n hx hb dX5_learn_68 rfl (lv_at hl 1 rfl) ?_
              refine lv_iload_n hx hb dX5_learn_69 rfl (lv_at hl 2 rfl) ?_
              refine nz_callW (va_runV (As := [.int (nI (w1))]) (rest := [.int (nI (c2))]) ⟨hx, hb, hml, hown, hts⟩ (mX5_takeUse l D a cs tp (f, min L 24) lx2 ro rs w1 ha hI2 hW9 c_7) (cwV 1 hts gX5_learn_X5_takeUse rfl rfl rfl (by decide +kernel) ⟨Nat.le_of_ble_eq_true rfl, Nat.le_of_ble_eq_true rfl⟩) (nz_preV (ci := 5) (q0 := 0) hK hP rfl rfl) rfl rfl hl.1 rfl (lv_room (Nat.le_of_ble_eq_true rfl)) dX5_learn_70 ⟨Nat.zero_le _, Nat.zero_le _⟩) hS (fun _ h => h) (fun H locs hP _ _ hS => ?_)
              refine nz_iadd (a := c2) (b := (useX lx2 f (min L 24) w1).2) hx hb dX5_learn_73 ?_
              refine nz_top (y := nI (c2 + ((useX lx2 f (min L 24) w1).2))) (by rfl) ?_
              refine lv_istore_n (lv' := [(2, .int (nI (c2 + ((useX lx2 f (min L 24) w1).2)))), (4, .int (smI (tp.1 k))), (0, .ref (a 0)), (1, .int (nI (w1))), (3, .int (nI (k)))]) hx hb dX5_learn_74 rfl hl (by decide) rfl (fun ls hl => ?_)
              refine lv_iinc (v := nI (k + 1)) (lv' := [(3, .int (nI (k + 1))), (2, .int (nI (c2 + ((useX lx2 f (min L 24) w1).2)))), (4, .int (smI (tp.1 k))), (0, .ref (a 0)), (1, .int (nI (w1)))]) hx hb dX5_learn_75 hl (k := 4) rfl (nz_inc1 _) (by decide) rfl (fun ls hl => ?_)
              refine lv_goto (tgt := 24) hx hb dX5_learn_78 (by decide) ?_
              exact ih (k + 1) 0 ((useX lx2 f (min L 24) w1).1) (c2 + ((useX lx2 f (min L 24) w1).2)) f (by omega) (Nat.zero_le _) hu.1 (fun j hj => absurd hj (by omega)) hfb (by omega) (by rw [← hfin, show tp.2 - k = (tp.2 - (k + 1)) + 1 by omega, lrn_0 (by show lowN (tp.1 k) = 0; omega), useX_congr hI2 hff]) (by omega) H locs hP hS ls (lv_sub hl [3, 4, 1, 0] rfl)
            · have hlo : 97 ≤ lowN (tp.1 k) ∧ lowN (tp.1 k) ≤ 122 ∧ smI (tp.1 k) = nI (lowN (tp.1 k)) := (lowN_or (tp.1 k)).elim (fun z => absurd z.1 c_52) (fun z => z)
              have e_1 : (smI (tp.1 k)) = (nI (lowN (tp.1 k))) := hlo.2.2
              have hl : lv_has ls 5 [(4, .int (nI (lowN (tp.1 k)))), (0, .ref (a 0)), (1, .int (nI (w1))), (2, .int (nI (c2))), (3, .int (nI (k)))] := by rw [← e_1]; exact hl
              refine lv_aload_n hx hb dX5_learn_55 rfl (lv_at hl 1 rfl) ?_
              refine va_get (D := D) (ci := 5) (v := .ref (a 2)) (C := RX5) (T := TX5) (N := 5) hx hb hts hinX5 hown hK hP 0 rfl rfl 1 (by decide) (hts (.fieldLink RX5 19 "TypoSuggester" "word" "LTypoSuggester$Word;") (by decide +kernel)) (fun _ h9 => h9) rfl dX5_learn_56 ?_
              refine lv_iload hx hb dX5_learn_59 (lv_at hl 0 rfl) ?_
              refine nz_callW (va_runV (As := [.int (nI (lowN (tp.1 k)))]) (rest := []) ⟨hx, hb, hml, hown, hts⟩ (mX4_append l D a cs tp (f, min L 24) lx2 ro rs (lowN (tp.1 k)) (decide (min L 24 < 24)) ha hW9 (by omega) decide_eq_true_iff) (cwV 1 hts gX5_learn_X4_append rfl rfl rfl (by decide +kernel) ⟨Nat.le_of_ble_eq_true rfl, Nat.le_of_ble_eq_true rfl⟩) (nz_preV (ci := 4) (q0 := 2) hK hP rfl rfl) rfl rfl hl.1 rfl (lv_room (Nat.le_of_ble_eq_true rfl)) dX5_learn_61 ⟨Nat.zero_le _, Nat.zero_le _⟩) hS (fun _ h => h) (fun H locs hP _ _ hS => ?_)
              obtain ⟨f2, hf2, hf2b, ef2⟩ := app_word (lo := fun j => lowN (tp.1 (k - L + j))) (ch := lowN (tp.1 k)) hff hfb (by omega) (by show _ = lowN (tp.1 (k - L + L)); rw [show k - L + L = k by omega])
              have hP : va_P D vwCl (wX a cs tp (bif decide (min L 24 < 24) then (va_up f (min L 24) (lowN (tp.1 k)), min L 24 + 1) else (f, min L 24)) lx2 ro rs) H := hP
              rw [ef2] at hP
              refine lv_goto (tgt := 75) hx hb dX5_learn_64 (by decide) ?_
              refine lv_iinc (v := nI (k + 1)) (lv' := [(3, .int (nI (k + 1))), (4, .int (nI (lowN (tp.1 k)))), (0, .ref (a 0)), (1, .int (nI (w1))), (2, .int (nI (c2)))]) hx hb dX5_learn_75 hl (k := 4) rfl (nz_inc1 _) (by decide) rfl (fun ls hl => ?_)
              refine lv_goto (tgt := 24) hx hb dX5_learn_78 (by decide) ?_
              exact ih (k + 1) (L + 1) lx2 c2 f2 (by omega) (by omega) hI2 (fun j hj => by rw [hf2 j hj, show k + 1 - (L + 1) = k - L by omega]) hf2b (by omega) (by rw [← hfin, show tp.2 - k = (tp.2 - (k + 1)) + 1 by omega, lrn_1 (by show lowN (tp.1 k) ≠ 0; omega)]) (by omega) H locs hP hS ls (lv_sub hl [2, 3, 4, 0] rfl)
      exact loop (tp.2 - 0 + 1) 0 0 lx 0 wd.1 (Nat.zero_le _) (Nat.le_refl _) hI (fun j hj => absurd hj (by omega)) hW2 (Nat.le_refl _) rfl (Nat.lt_succ_self _) H locs hP hS ls (lv_sub hl [2, 3, 1, 0] rfl)
    · have hno : ¬ lrnOk (nI w1) := fun h => by have := h.2; rw [nI_clamp hw1] at this; omega
      refine lv_iconst (v := (-1)) hx hb dX5_learn_10 (by decide +kernel) ?_
      have hok : dB (lrnOk (nI w1)) = false := dB_f hno
      rw [show lrnI lx tp (nI w1) = -1 by unfold lrnI; rw [hok]; rfl, show lrnL lx tp (nI w1) = lx by unfold lrnL; rw [hok]; rfl, show lrnT tp (nI w1) = tp.2 by unfold lrnT; rw [hok]; rfl] at hret
      exact hret 11 ls H locs dX5_learn_11 ⟨_, hW, hP⟩ hS
