/-! The Lexicon's methods that read. LxB: what bounds its rows; WdB: the word's. -/
def LxB (lx : (Nat → Nat) × (Nat → Nat) × (Nat → Nat) × Nat) : Prop := lx.2.2.2 ≤ 600 ∧ (∀ i, i < lx.2.2.2 → lx.2.1 i ≤ lx.2.1 (i + 1)) ∧ (∀ j, lx.2.1 j ≤ 6000) ∧ (∀ j, lx.1 j < 128) ∧ (∀ j, lx.2.2.1 j ≤ 1000000000000)
def WdB (wd : (Nat → Nat) × Nat) : Prop := wd.2 ≤ 24 ∧ ∀ j, wd.1 j < 128
abbrev ZX (lx : (Nat → Nat) × (Nat → Nat) × (Nat → Nat) × Nat) (i : Nat) : Nat := lx.2.1 (i + 1) - lx.2.1 i
abbrev TX (lx : (Nat → Nat) × (Nat → Nat) × (Nat → Nat) × Nat) (i : Nat) : Nat → Nat := fun k => lx.1 (lx.2.1 i + k)
theorem lx_mono {lx : (Nat → Nat) × (Nat → Nat) × (Nat → Nat) × Nat} (hB : LxB lx) (i : Nat) : ∀ j, i ≤ j → j ≤ lx.2.2.2 → lx.2.1 i ≤ lx.2.1 j := by
  intro j
  induction j with
  | zero => intro h _; rw [show i = 0 by omega]; exact Nat.le_refl _
  | succ j ih =>
    intro h h2
    rcases Nat.lt_or_ge i (j + 1) with z | z
    · exact Nat.le_trans (ih (by omega) (by omega)) (hB.2.1 j (by omega))
    · rw [show i = j + 1 by omega]; exact Nat.le_refl _
abbrev rmX0_size : Room := { frames := 0, cells := 0, slots := 0, locals := 0 }
set_option maxHeartbeats 4000000 in
set_option maxRecDepth 100000 in
theorem mX0_size (l : Launch) (D : va_G) (a : Nat → Nat) (cs : Nat → ClassId) (tp : (Nat → Int32) × Nat) (wd : (Nat → Nat) × Nat) (lx : (Nat → Nat) × (Nat → Nat) × (Nat → Nat) × Nat) (ro : Nat → Nat) (rs : (Nat → Nat) × (Nat → Nat) × (Nat → Nat) × (Nat → Nat) × (Nat → Nat) × Nat) (hB : LxB lx) : Met l yX0_size wsX0_size rmX0_size (wdP D vwCl (wX a cs tp wd lx ro rs) (tyX cs) [.ref (a 3)]) (rdQ (.int (nI (lx.2.1 lx.2.2.2)))) 0 0 (fun _ => False) := by
  obtain ⟨hB1, hB2, hB3, hB4, hB5⟩ := id hB
  refine nz_metRi (by decide) rfl (Nat.le_of_ble_eq_true rfl) rfl ?_
  intro p e s m args below meth c Q hx hb hml hts hown hP hK hret ls hl
  have hl : lv_has ls 1 [(0, .ref (a 3))] := hl
  have hown : s.vm.findClass RX0 = some m.cls := hown
  have hinX0 : ∀ w ∈ u_ws RX0 TX0 4, w ∈ wsX0_size := by decide +kernel
  refine lv_aload_n hx hb dX0_size_0 rfl (lv_at hl 0 rfl) ?_
  refine va_get (D := D) (ci := 0) (v := .ref (a 9)) (C := RX0) (T := TX0) (N := 4) hx hb hts hinX0 hown hK hP 3 rfl rfl 1 (by decide) (hts (.fieldLink RX0 15 "TypoSuggester$Lexicon" "starts" "[I") (by decide +kernel)) (fun _ h9 => h9) rfl dX0_size_1 ?_
  refine lv_aload_n hx hb dX0_size_4 rfl (lv_at hl 0 rfl) ?_
  refine va_get (D := D) (ci := 0) (v := .int (nI (lx.2.2.2))) (C := RX0) (T := TX0) (N := 4) hx hb hts hinX0 hown hK hP 3 rfl rfl 3 (by decide) (hts (.fieldLink RX0 23 "TypoSuggester$Lexicon" "count" "I") (by decide +kernel)) (fun _ h9 => h9) rfl dX0_size_5 ?_
  refine nz_iald (f := lx.2.1) (k := lx.2.2.2) hx hb hK hP 9 1 rfl rfl (by omega) (by decide) dX0_size_8 ?_
  exact hret 9 ls dX0_size_9
abbrev rmX0_lengthOf : Room := { frames := 0, cells := 0, slots := 0, locals := 0 }
set_option maxHeartbeats 4000000 in
set_option maxRecDepth 100000 in
theorem mX0_lengthOf (l : Launch) (D : va_G) (a : Nat → Nat) (cs : Nat → ClassId) (tp : (Nat → Int32) × Nat) (wd : (Nat → Nat) × Nat) (lx : (Nat → Nat) × (Nat → Nat) × (Nat → Nat) × Nat) (ro : Nat → Nat) (rs : (Nat → Nat) × (Nat → Nat) × (Nat → Nat) × (Nat → Nat) × (Nat → Nat) × Nat) (i : Nat) (hB : LxB lx) (hi : i < lx.2.2.2) : Met l yX0_lengthOf wsX0_lengthOf rmX0_lengthOf (wdP D vwCl (wX a cs tp wd lx ro rs) (tyX cs) [.ref (a 3), .int (nI (i))]) (rdQ (.int (nI (lx.2.1 (i + 1) - lx.2.1 i)))) 0 0 (fun _ => False) := by
  obtain ⟨hB1, hB2, hB3, hB4, hB5⟩ := id hB
  have hm := hB2 i hi
  refine nz_metRi (by decide) rfl (Nat.le_of_ble_eq_true rfl) rfl ?_
  intro p e s m args below meth c Q hx hb hml hts hown hP hK hret ls hl
  have hl : lv_has ls 2 [(0, .ref (a 3)), (1, .int (nI (i)))] := hl
  have hown : s.vm.findClass RX0 = some m.cls := hown
  have hinX0 : ∀ w ∈ u_ws RX0 TX0 4, w ∈ wsX0_lengthOf := by decide +kernel
  refine lv_aload_n hx hb dX0_lengthOf_0 rfl (lv_at hl 0 rfl) ?_
  refine va_get (D := D) (ci := 0) (v := .ref (a 9)) (C := RX0) (T := TX0) (N := 4) hx hb hts hinX0 hown hK hP 3 rfl rfl 1 (by decide) (hts (.fieldLink RX0 15 "TypoSuggester$Lexicon" "starts" "[I") (by decide +kernel)) (fun _ h9 => h9) rfl dX0_lengthOf_1 ?_
  refine lv_iload_n hx hb dX0_lengthOf_4 rfl (lv_at hl 1 rfl) ?_
  refine lv_iconst (v := nI 1) hx hb dX0_lengthOf_5 (by decide +kernel) ?_
  refine nz_iadd (a := i) (b := 1) hx hb dX0_lengthOf_6 ?_
  refine nz_iald (f := lx.2.1) (k := i + 1) hx hb hK hP 9 1 rfl rfl (by omega) (by decide) dX0_lengthOf_7 ?_
  refine lv_aload_n hx hb dX0_lengthOf_8 rfl (lv_at hl 0 rfl) ?_
  refine va_get (D := D) (ci := 0) (v := .ref (a 9)) (C := RX0) (T := TX0) (N := 4) hx hb hts hinX0 hown hK hP 3 rfl rfl 1 (by decide) (hts (.fieldLink RX0 15 "TypoSuggester$Lexicon" "starts" "[I") (by decide +kernel)) (fun _ h9 => h9) rfl dX0_lengthOf_9 ?_
  refine lv_iload_n hx hb dX0_lengthOf_12 rfl (lv_at hl 1 rfl) ?_
  refine nz_iald (f := lx.2.1) (k := i) hx hb hK hP 9 1 rfl rfl (by omega) (by decide) dX0_lengthOf_13 ?_
  refine nz_isub (a := lx.2.1 (i + 1)) (b := lx.2.1 i) hx hb dX0_lengthOf_14 (by omega) ?_
  exact hret 15 ls dX0_lengthOf_15
abbrev rmX0_sharedWith : Room := { frames := 1, cells := 0, slots := 0, locals := 23 }
set_option maxHeartbeats 4000000 in
set_option maxRecDepth 100000 in
theorem mX0_sharedWith (l : Launch) (D : va_G) (a : Nat → Nat) (cs : Nat → ClassId) (tp : (Nat → Int32) × Nat) (wd : (Nat → Nat) × Nat) (lx : (Nat → Nat) × (Nat → Nat) × (Nat → Nat) × Nat) (ro : Nat → Nat) (rs : (Nat → Nat) × (Nat → Nat) × (Nat → Nat) × (Nat → Nat) × (Nat → Nat) × Nat) (i : Nat) (r : Nat) (hB : LxB lx) (hW : WdB wd) (hi : i < lx.2.2.2) (hr : IsLcp (TX lx i) wd.1 (min (ZX lx i) wd.2) r) : Met l yX0_sharedWith wsX0_sharedWith rmX0_sharedWith (wdP D vwCl (wX a cs tp wd lx ro rs) (tyX cs) [.ref (a 3), .int (nI (i)), .ref (a 2)]) (rdQ (.int (nI (r)))) 0 0 (fun _ => False) := by
  obtain ⟨hB1, hB2, hB3, hB4, hB5⟩ := id hB
  obtain ⟨hW1, hW2⟩ := id hW
  have hm := hB2 i hi
  have hm2 := hB3 (i + 1)
  have hr1 : r ≤ min (lx.2.1 (i + 1) - lx.2.1 i) wd.2 := hr.1
  have hr2 : ∀ j, j < r → lx.1 (lx.2.1 i + j) = wd.1 j := hr.2.1
  have hr3 : r < min (lx.2.1 (i + 1) - lx.2.1 i) wd.2 → lx.1 (lx.2.1 i + r) ≠ wd.1 r := hr.2.2
  refine nz_metRi (by decide) rfl (Nat.le_of_ble_eq_true rfl) rfl ?_
  intro p e s m args below meth c Q hx hb hml hts hown hP hK hret ls hl
  have hl : lv_has ls 5 [(0, .ref (a 3)), (1, .int (nI (i))), (2, .ref (a 2))] := hl
  have hown : s.vm.findClass RX0 = some m.cls := hown
  have hinX4 : ∀ w ∈ u_ws RX4 TX4 2, w ∈ wsX0_sharedWith := by decide +kernel
  have hinX0 : ∀ w ∈ u_ws RX0 TX0 4, w ∈ wsX0_sharedWith := by decide +kernel
  refine lv_aload_n hx hb dX0_sharedWith_0 rfl (lv_at hl 0 rfl) ?_
  refine lv_iload_n hx hb dX0_sharedWith_1 rfl (lv_at hl 1 rfl) ?_
  refine nz_callR (va_runV (As := [.int (nI (i))]) (rest := []) ⟨hx, hb, hml, hown, hts⟩ (mX0_lengthOf l D a cs tp wd lx ro rs i hB hi) (cwV 1 hts gX0_sharedWith_X0_lengthOf rfl rfl rfl (by decide +kernel) ⟨Nat.le_of_ble_eq_true rfl, Nat.le_of_ble_eq_true rfl⟩) (nz_preV (ci := 0) (q0 := 3) hK hP rfl rfl) rfl rfl hl.1 rfl (lv_room (Nat.le_of_ble_eq_true rfl)) dX0_sharedWith_2 ⟨Nat.zero_le _, Nat.zero_le _⟩) ?_
  refine lv_aload_n hx hb dX0_sharedWith_5 rfl (lv_at hl 2 rfl) ?_
  refine va_get (D := D) (ci := 4) (v := .int (nI (wd.2))) (C := RX4) (T := TX4) (N := 2) hx hb hts hinX4 hown hK hP 2 rfl rfl 1 (by decide) (hts (.fieldLink RX0 39 "TypoSuggester$Word" "length" "I") (by decide +kernel)) (fun _ h9 => h9) rfl dX0_sharedWith_6 ?_
  refine nz_mmin (a := lx.2.1 (i + 1) - lx.2.1 i) (b := wd.2) hx hb (hml.trans hl.1.symm) hown (hts (.methodLink RX0 48 Lib.Math.min.name) (by decide +kernel)) (hts (.static Lib.Math.min.name) (by decide +kernel)) (hts (.initialized "java/lang/Math") (by decide +kernel)) (hts (.code Lib.Math.min.name Lib.Math.min.code 2 (some .int)) (by decide +kernel)) (Nat.le_of_ble_eq_true rfl) (Nat.le_of_ble_eq_true rfl) (Nat.zero_le _) (Nat.zero_le _) (by omega) (by omega) dX0_sharedWith_9 ?_
  refine lv_istore_n (lv' := [(3, .int (nI (min (lx.2.1 (i + 1) - lx.2.1 i) wd.2))), (0, .ref (a 3)), (1, .int (nI (i))), (2, .ref (a 2))]) hx hb dX0_sharedWith_12 rfl hl (by decide) rfl (fun ls hl => ?_)
  refine lv_iconst (v := nI 0) hx hb dX0_sharedWith_13 (by decide +kernel) ?_
  refine lv_istore (lv' := [(4, .int (nI (0))), (3, .int (nI (min (lx.2.1 (i + 1) - lx.2.1 i) wd.2))), (0, .ref (a 3)), (1, .int (nI (i))), (2, .ref (a 2))]) hx hb dX0_sharedWith_14 hl (by decide) rfl (fun ls hl => ?_)
  have loop : ∀ (fuel : Nat) (k : Nat), (k ≤ r) → r - k < fuel → ∀ ls : Array Slot, lv_has ls 5 [(0, .ref (a 3)), (1, .int (nI (i))), (2, .ref (a 2)), (3, .int (nI (min (lx.2.1 (i + 1) - lx.2.1 i) wd.2))), (4, .int (nI (k)))] → W p l e rmX0_sharedWith s m args below meth c s.heap [] 0 0 Q (F0 m 16 ls []) := by
    intro fuel
    induction fuel with
    | zero => intro k hk hf; exact absurd hf (Nat.not_lt_zero _)
    | succ fuel ih =>
      intro k hk hf ls hl
      refine lv_iload hx hb dX0_sharedWith_16 (lv_at hl 4 rfl) ?_
      refine lv_iload_n hx hb dX0_sharedWith_18 rfl (lv_at hl 3 rfl) ?_
      refine nz_cge (a := k) (b := min (lx.2.1 (i + 1) - lx.2.1 i) wd.2) (tgt := 52) hx hb dX0_sharedWith_19 (by decide) (by omega) (by omega) (fun c_19 => ?_) (fun c_19 => ?_)
      · have hkr : k = r := by omega
        refine lv_iload hx hb dX0_sharedWith_52 (lv_at hl 4 rfl) ?_
        rw [hkr]
        exact hret 54 ls dX0_sharedWith_54
      · refine lv_aload_n hx hb dX0_sharedWith_22 rfl (lv_at hl 0 rfl) ?_
        refine va_get (D := D) (ci := 0) (v := .ref (a 8)) (C := RX0) (T := TX0) (N := 4) hx hb hts hinX0 hown hK hP 3 rfl rfl 0 (by decide) (hts (.fieldLink RX0 9 "TypoSuggester$Lexicon" "letters" "[B") (by decide +kernel)) (fun _ h9 => h9) rfl dX0_sharedWith_23 ?_
        refine lv_aload_n hx hb dX0_sharedWith_26 rfl (lv_at hl 0 rfl) ?_
        refine va_get (D := D) (ci := 0) (v := .ref (a 9)) (C := RX0) (T := TX0) (N := 4) hx hb hts hinX0 hown hK hP 3 rfl rfl 1 (by decide) (hts (.fieldLink RX0 15 "TypoSuggester$Lexicon" "starts" "[I") (by decide +kernel)) (fun _ h9 => h9) rfl dX0_sharedWith_27 ?_
        refine lv_iload_n hx hb dX0_sharedWith_30 rfl (lv_at hl 1 rfl) ?_
        refine nz_iald (f := lx.2.1) (k := i) hx hb hK hP 9 1 rfl rfl (by omega) (by decide) dX0_sharedWith_31 ?_
        refine lv_iload hx hb dX0_sharedWith_32 (lv_at hl 4 rfl) ?_
        refine nz_iadd (a := lx.2.1 i) (b := k) hx hb dX0_sharedWith_34 ?_
        refine nz_bald (f := lx.1) (k := lx.2.1 i + k) hx hb hK hP 8 0 rfl rfl (by omega) (by decide) dX0_sharedWith_35 ?_
        refine lv_aload_n hx hb dX0_sharedWith_36 rfl (lv_at hl 2 rfl) ?_
        refine va_get (D := D) (ci := 4) (v := .ref (a 7)) (C := RX4) (T := TX4) (N := 2) hx hb hts hinX4 hown hK hP 2 rfl rfl 0 (by decide) (hts (.fieldLink RX0 44 "TypoSuggester$Word" "letters" "[B") (by decide +kernel)) (fun _ h9 => h9) rfl dX0_sharedWith_37 ?_
        refine lv_iload hx hb dX0_sharedWith_40 (lv_at hl 4 rfl) ?_
        refine nz_bald (f := wd.1) (k := k) hx hb hK hP 7 0 rfl rfl (by omega) (by decide) dX0_sharedWith_42 ?_
        refine nz_cne (a := lx.1 (lx.2.1 i + k)) (b := wd.1 k) (tgt := 52) hx hb dX0_sharedWith_43 (by decide) (by have := hB4 (lx.2.1 i + k); omega) (by have := hW2 k; omega) (fun c_43 => ?_) (fun c_43 => ?_)
        · have hkr : k = r := by
            rcases Nat.lt_or_ge k r with h | h
            · exact absurd (hr2 k h) c_43
            · omega
          refine lv_iload hx hb dX0_sharedWith_52 (lv_at hl 4 rfl) ?_
          rw [hkr]
          exact hret 54 ls dX0_sharedWith_54
        · have hkr : k < r := by
            rcases Nat.lt_or_ge k r with h | h
            · exact h
            · have h2 : k = r := by omega
              rw [h2] at c_19 c_43
              exact absurd c_43 (hr3 c_19)
          refine lv_iinc (v := nI (k + 1)) (lv' := [(4, .int (nI (k + 1))), (0, .ref (a 3)), (1, .int (nI (i))), (2, .ref (a 2)), (3, .int (nI (min (lx.2.1 (i + 1) - lx.2.1 i) wd.2)))]) hx hb dX0_sharedWith_46 hl (k := 4) rfl (nz_inc1 _) (by decide) rfl (fun ls hl => ?_)
          refine lv_goto (tgt := 16) hx hb dX0_sharedWith_49 (by decide) ?_
          exact ih (k + 1) (by omega) (by omega) ls (lv_sub hl [1, 2, 3, 4, 0] rfl)
  exact loop (r - 0 + 1) 0 (Nat.zero_le _) (Nat.lt_succ_self _) ls (lv_sub hl [2, 3, 4, 1, 0] rfl)
abbrev rmX0_goesBefore : Room := { frames := 2, cells := 0, slots := 0, locals := 47 }
set_option maxHeartbeats 4000000 in
set_option maxRecDepth 100000 in
theorem mX0_goesBefore (l : Launch) (D : va_G) (a : Nat → Nat) (cs : Nat → ClassId) (tp : (Nat → Int32) × Nat) (wd : (Nat → Nat) × Nat) (lx : (Nat → Nat) × (Nat → Nat) × (Nat → Nat) × Nat) (ro : Nat → Nat) (rs : (Nat → Nat) × (Nat → Nat) × (Nat → Nat) × (Nat → Nat) × (Nat → Nat) × Nat) (i : Nat) (bb : Bool) (hB : LxB lx) (hW : WdB wd) (hi : i < lx.2.2.2) (hbb : bb = true ↔ ltF (TX lx i) (ZX lx i) wd.1 wd.2) : Met l yX0_goesBefore wsX0_goesBefore rmX0_goesBefore (wdP D vwCl (wX a cs tp wd lx ro rs) (tyX cs) [.ref (a 3), .int (nI (i)), .ref (a 2)]) (rdQ (.int (bI (bb)))) 0 0 (fun _ => False) := by
  obtain ⟨hB1, hB2, hB3, hB4, hB5⟩ := id hB
  obtain ⟨hW1, hW2⟩ := id hW
  obtain ⟨r, hr⟩ := lcp_ex (TX lx i) wd.1 (min (ZX lx i) wd.2)
  have hm := hB2 i hi
  have hm2 := hB3 (i + 1)
  have hr1 : r ≤ min (lx.2.1 (i + 1) - lx.2.1 i) wd.2 := hr.1
  have hr2 : ∀ j, j < r → lx.1 (lx.2.1 i + j) = wd.1 j := hr.2.1
  have hr3 : r < min (lx.2.1 (i + 1) - lx.2.1 i) wd.2 → lx.1 (lx.2.1 i + r) ≠ wd.1 r := hr.2.2
  rw [ltF_iff hr] at hbb
  have hbb : bb = true ↔ r ≠ wd.2 ∧ (r = lx.2.1 (i + 1) - lx.2.1 i ∨ lx.1 (lx.2.1 i + r) < wd.1 r) := hbb
  refine nz_metRi (by decide) rfl (Nat.le_of_ble_eq_true rfl) (bI_nar _) ?_
  intro p e s m args below meth c Q hx hb hml hts hown hP hK hret ls hl
  have hl : lv_has ls 4 [(0, .ref (a 3)), (1, .int (nI (i))), (2, .ref (a 2))] := hl
  have hown : s.vm.findClass RX0 = some m.cls := hown
  have hinX4 : ∀ w ∈ u_ws RX4 TX4 2, w ∈ wsX0_goesBefore := by decide +kernel
  have hinX0 : ∀ w ∈ u_ws RX0 TX0 4, w ∈ wsX0_goesBefore := by decide +kernel
  refine lv_aload_n hx hb dX0_goesBefore_0 rfl (lv_at hl 0 rfl) ?_
  refine lv_iload_n hx hb dX0_goesBefore_1 rfl (lv_at hl 1 rfl) ?_
  refine lv_aload_n hx hb dX0_goesBefore_2 rfl (lv_at hl 2 rfl) ?_
  refine nz_callR (va_runV (As := [.int (nI (i)), .ref (a 2)]) (rest := []) ⟨hx, hb, hml, hown, hts⟩ (mX0_sharedWith l D a cs tp wd lx ro rs i r hB hW hi hr) (cwV 2 hts gX0_goesBefore_X0_sharedWith rfl rfl rfl (by decide +kernel) ⟨Nat.le_of_ble_eq_true rfl, Nat.le_of_ble_eq_true rfl⟩) (nz_preV (ci := 0) (q0 := 3) hK hP rfl rfl) rfl rfl hl.1 rfl (lv_room (Nat.le_of_ble_eq_true rfl)) dX0_goesBefore_3 ⟨Nat.zero_le _, Nat.zero_le _⟩) ?_
  refine lv_istore_n (lv' := [(3, .int (nI (r))), (0, .ref (a 3)), (1, .int (nI (i))), (2, .ref (a 2))]) hx hb dX0_goesBefore_6 rfl hl (by decide) rfl (fun ls hl => ?_)
  refine lv_iload_n hx hb dX0_goesBefore_7 rfl (lv_at hl 0 rfl) ?_
  refine lv_aload_n hx hb dX0_goesBefore_8 rfl (lv_at hl 3 rfl) ?_
  refine va_get (D := D) (ci := 4) (v := .int (nI (wd.2))) (C := RX4) (T := TX4) (N := 2) hx hb hts hinX4 hown hK hP 2 rfl rfl 1 (by decide) (hts (.fieldLink RX0 39 "TypoSuggester$Word" "length" "I") (by decide +kernel)) (fun _ h9 => h9) rfl dX0_goesBefore_9 ?_
  refine nz_cne (a := r) (b := wd.2) (tgt := 17) hx hb dX0_goesBefore_12 (by decide) (by omega) (by omega) (fun c_12 => ?_) (fun c_12 => ?_)
  · refine lv_iload_n hx hb dX0_goesBefore_17 rfl (lv_at hl 0 rfl) ?_
    refine lv_aload_n hx hb dX0_goesBefore_18 rfl (lv_at hl 1 rfl) ?_
    refine lv_iload_n hx hb dX0_goesBefore_19 rfl (lv_at hl 2 rfl) ?_
    refine nz_callR (va_runV (As := [.int (nI (i))]) (rest := [.int (nI (r))]) ⟨hx, hb, hml, hown, hts⟩ (mX0_lengthOf l D a cs tp wd lx ro rs i hB hi) (cwV 1 hts gX0_goesBefore_X0_lengthOf rfl rfl rfl (by decide +kernel) ⟨Nat.le_of_ble_eq_true rfl, Nat.le_of_ble_eq_true rfl⟩) (nz_preV (ci := 0) (q0 := 3) hK hP rfl rfl) rfl rfl hl.1 rfl (lv_room (Nat.le_of_ble_eq_true rfl)) dX0_goesBefore_20 ⟨Nat.zero_le _, Nat.zero_le _⟩) ?_
    refine nz_ceq (a := r) (b := lx.2.1 (i + 1) - lx.2.1 i) (tgt := 48) hx hb dX0_goesBefore_23 (by decide) (by omega) (by omega) (fun c_23 => ?_) (fun c_23 => ?_)
    · refine lv_iconst (v := nI 1) hx hb dX0_goesBefore_48 (by decide +kernel) ?_
      refine lv_goto (tgt := 53) hx hb dX0_goesBefore_49 (by decide) ?_
      refine nz_top bI_t ?_
      rw [show true = bb from (by exact (hbb.mpr (by first | omega | exact ⟨by omega, by omega⟩)).symm)]
      exact hret 53 ls dX0_goesBefore_53
    · refine lv_aload_n hx hb dX0_goesBefore_26 rfl (lv_at hl 1 rfl) ?_
      refine va_get (D := D) (ci := 0) (v := .ref (a 8)) (C := RX0) (T := TX0) (N := 4) hx hb hts hinX0 hown hK hP 3 rfl rfl 0 (by decide) (hts (.fieldLink RX0 9 "TypoSuggester$Lexicon" "letters" "[B") (by decide +kernel)) (fun _ h9 => h9) rfl dX0_goesBefore_27 ?_
      refine lv_aload_n hx hb dX0_goesBefore_30 rfl (lv_at hl 1 rfl) ?_
      refine va_get (D := D) (ci := 0) (v := .ref (a 9)) (C := RX0) (T := TX0) (N := 4) hx hb hts hinX0 hown hK hP 3 rfl rfl 1 (by decide) (hts (.fieldLink RX0 15 "TypoSuggester$Lexicon" "starts" "[I") (by decide +kernel)) (fun _ h9 => h9) rfl dX0_goesBefore_31 ?_
      refine lv_iload_n hx hb dX0_goesBefore_34 rfl (lv_at hl 2 rfl) ?_
      refine nz_iald (f := lx.2.1) (k := i) hx hb hK hP 9 1 rfl rfl (by omega) (by decide) dX0_goesBefore_35 ?_
      refine lv_iload_n hx hb dX0_goesBefore_36 rfl (lv_at hl 0 rfl) ?_
      refine nz_iadd (a := lx.2.1 i) (b := r) hx hb dX0_goesBefore_37 ?_
      refine nz_bald (f := lx.1) (k := lx.2.1 i + r) hx hb hK hP 8 0 rfl rfl (by omega) (by decide) dX0_goesBefore_38 ?_
      refine lv_aload_n hx hb dX0_goesBefore_39 rfl (lv_at hl 3 rfl) ?_
      refine va_get (D := D) (ci := 4) (v := .ref (a 7)) (C := RX4) (T := TX4) (N := 2) hx hb hts hinX4 hown hK hP 2 rfl rfl 0 (by decide) (hts (.fieldLink RX0 44 "TypoSuggester$Word" "letters" "[B") (by decide +kernel)) (fun _ h9 => h9) rfl dX0_goesBefore_40 ?_
      refine lv_iload_n hx hb dX0_goesBefore_43 rfl (lv_at hl 0 rfl) ?_
      refine nz_bald (f := wd.1) (k := r) hx hb hK hP 7 0 rfl rfl (by omega) (by decide) dX0_goesBefore_44 ?_
      refine nz_cge (a := lx.1 (lx.2.1 i + r)) (b := wd.1 r) (tgt := 52) hx hb dX0_goesBefore_45 (by decide) (by have := hB4 (lx.2.1 i + r); omega) (by have := hW2 r; omega) (fun c_45 => ?_) (fun c_45 => ?_)
      · refine lv_iconst (v := nI 0) hx hb dX0_goesBefore_52 (by decide +kernel) ?_
        refine nz_top bI_f ?_
        rw [show false = bb from (by cases bb with | false => rfl | true => exact absurd (hbb.mp rfl) (by omega))]
        exact hret 53 ls dX0_goesBefore_53
      · refine lv_iconst (v := nI 1) hx hb dX0_goesBefore_48 (by decide +kernel) ?_
        refine lv_goto (tgt := 53) hx hb dX0_goesBefore_49 (by decide) ?_
        refine nz_top bI_t ?_
        rw [show true = bb from (by exact (hbb.mpr (by first | omega | exact ⟨by omega, by omega⟩)).symm)]
        exact hret 53 ls dX0_goesBefore_53
  · refine lv_iconst (v := nI 0) hx hb dX0_goesBefore_15 (by decide +kernel) ?_
    refine nz_top bI_f ?_
    rw [show false = bb from (by cases bb with | false => rfl | true => exact absurd (hbb.mp rfl) (by omega))]
    exact hret 16 ls dX0_goesBefore_16
abbrev rmX0_beginsWith : Room := { frames := 2, cells := 0, slots := 0, locals := 47 }
set_option maxHeartbeats 4000000 in
set_option maxRecDepth 100000 in
theorem mX0_beginsWith (l : Launch) (D : va_G) (a : Nat → Nat) (cs : Nat → ClassId) (tp : (Nat → Int32) × Nat) (wd : (Nat → Nat) × Nat) (lx : (Nat → Nat) × (Nat → Nat) × (Nat → Nat) × Nat) (ro : Nat → Nat) (rs : (Nat → Nat) × (Nat → Nat) × (Nat → Nat) × (Nat → Nat) × (Nat → Nat) × Nat) (i : Nat) (bb : Bool) (hB : LxB lx) (hW : WdB wd) (hi : i < lx.2.2.2) (hbb : bb = true ↔ (wd.2 ≤ ZX lx i ∧ ∀ j, j < wd.2 → TX lx i j = wd.1 j)) : Met l yX0_beginsWith wsX0_beginsWith rmX0_beginsWith (wdP D vwCl (wX a cs tp wd lx ro rs) (tyX cs) [.ref (a 3), .int (nI (i)), .ref (a 2)]) (rdQ (.int (bI (bb)))) 0 0 (fun _ => False) := by
  obtain ⟨hB1, hB2, hB3, hB4, hB5⟩ := id hB
  obtain ⟨hW1, hW2⟩ := id hW
  obtain ⟨r, hr⟩ := lcp_ex (TX lx i) wd.1 (min (ZX lx i) wd.2)
  have hm := hB2 i hi
  have hm2 := hB3 (i + 1)
  have hr1 : r ≤ min (lx.2.1 (i + 1) - lx.2.1 i) wd.2 := hr.1
  have hr2 : ∀ j, j < r → lx.1 (lx.2.1 i + j) = wd.1 j := hr.2.1
  have hr3 : r < min (lx.2.1 (i + 1) - lx.2.1 i) wd.2 → lx.1 (lx.2.1 i + r) ≠ wd.1 r := hr.2.2
  have hbb : bb = true ↔ r = wd.2 := by
    rw [hbb]
    constructor
    · rintro ⟨h1, h2⟩
      rcases Nat.lt_or_ge r wd.2 with z | z
      · exact absurd (h2 r z) (hr3 (by have h1 : wd.2 ≤ lx.2.1 (i + 1) - lx.2.1 i := h1; omega))
      · omega
    · intro z
      exact ⟨by show wd.2 ≤ lx.2.1 (i + 1) - lx.2.1 i; omega, fun j hj => hr2 j (by omega)⟩
  refine nz_metRi (by decide) rfl (Nat.le_of_ble_eq_true rfl) (bI_nar _) ?_
  intro p e s m args below meth c Q hx hb hml hts hown hP hK hret ls hl
  have hl : lv_has ls 3 [(0, .ref (a 3)), (1, .int (nI (i))), (2, .ref (a 2))] := hl
  have hown : s.vm.findClass RX0 = some m.cls := hown
  have hinX4 : ∀ w ∈ u_ws RX4 TX4 2, w ∈ wsX0_beginsWith := by decide +kernel
  refine lv_aload_n hx hb dX0_beginsWith_0 rfl (lv_at hl 0 rfl) ?_
  refine lv_iload_n hx hb dX0_beginsWith_1 rfl (lv_at hl 1 rfl) ?_
  refine lv_aload_n hx hb dX0_beginsWith_2 rfl (lv_at hl 2 rfl) ?_
  refine nz_callR (va_runV (As := [.int (nI (i)), .ref (a 2)]) (rest := []) ⟨hx, hb, hml, hown, hts⟩ (mX0_sharedWith l D a cs tp wd lx ro rs i r hB hW hi hr) (cwV 2 hts gX0_beginsWith_X0_sharedWith rfl rfl rfl (by decide +kernel) ⟨Nat.le_of_ble_eq_true rfl, Nat.le_of_ble_eq_true rfl⟩) (nz_preV (ci := 0) (q0 := 3) hK hP rfl rfl) rfl rfl hl.1 rfl (lv_room (Nat.le_of_ble_eq_true rfl)) dX0_beginsWith_3 ⟨Nat.zero_le _, Nat.zero_le _⟩) ?_
  refine lv_aload_n hx hb dX0_beginsWith_6 rfl (lv_at hl 2 rfl) ?_
  refine va_get (D := D) (ci := 4) (v := .int (nI (wd.2))) (C := RX4) (T := TX4) (N := 2) hx hb hts hinX4 hown hK hP 2 rfl rfl 1 (by decide) (hts (.fieldLink RX0 39 "TypoSuggester$Word" "length" "I") (by decide +kernel)) (fun _ h9 => h9) rfl dX0_beginsWith_7 ?_
  refine nz_cne (a := r) (b := wd.2) (tgt := 17) hx hb dX0_beginsWith_10 (by decide) (by omega) (by omega) (fun c_10 => ?_) (fun c_10 => ?_)
  · refine lv_iconst (v := nI 0) hx hb dX0_beginsWith_17 (by decide +kernel) ?_
    refine nz_top bI_f ?_
    rw [show false = bb from (by cases bb with | false => rfl | true => exact absurd (hbb.mp rfl) (by omega))]
    exact hret 18 ls dX0_beginsWith_18
  · refine lv_iconst (v := nI 1) hx hb dX0_beginsWith_13 (by decide +kernel) ?_
    refine lv_goto (tgt := 18) hx hb dX0_beginsWith_14 (by decide) ?_
    refine nz_top bI_t ?_
    rw [show true = bb from (by exact (hbb.mpr (by first | omega | exact ⟨by omega, by omega⟩)).symm)]
    exact hret 18 ls dX0_beginsWith_18
abbrev rmX0_standsAt : Room := { frames := 3, cells := 0, slots := 0, locals := 69 }
set_option maxHeartbeats 4000000 in
set_option maxRecDepth 100000 in
theorem mX0_standsAt (l : Launch) (D : va_G) (a : Nat → Nat) (cs : Nat → ClassId) (tp : (Nat → Int32) × Nat) (wd : (Nat → Nat) × Nat) (lx : (Nat → Nat) × (Nat → Nat) × (Nat → Nat) × Nat) (ro : Nat → Nat) (rs : (Nat → Nat) × (Nat → Nat) × (Nat → Nat) × (Nat → Nat) × (Nat → Nat) × Nat) (i : Nat) (bb : Bool) (hB : LxB lx) (hW : WdB wd) (hi : i ≤ lx.2.2.2) (hbb : bb = true ↔ (i < lx.2.2.2 ∧ lx.2.1 (i + 1) - lx.2.1 i = wd.2 ∧ ∀ j, j < wd.2 → TX lx i j = wd.1 j)) : Met l yX0_standsAt wsX0_standsAt rmX0_standsAt (wdP D vwCl (wX a cs tp wd lx ro rs) (tyX cs) [.ref (a 3), .int (nI (i)), .ref (a 2)]) (rdQ (.int (bI (bb)))) 0 0 (fun _ => False) := by
  obtain ⟨hB1, hB2, hB3, hB4, hB5⟩ := id hB
  obtain ⟨hW1, hW2⟩ := id hW
  refine nz_metRi (by decide) rfl (Nat.le_of_ble_eq_true rfl) (bI_nar _) ?_
  intro p e s m args below meth c Q hx hb hml hts hown hP hK hret ls hl
  have hl : lv_has ls 3 [(0, .ref (a 3)), (1, .int (nI (i))), (2, .ref (a 2))] := hl
  have hown : s.vm.findClass RX0 = some m.cls := hown
  have hinX0 : ∀ w ∈ u_ws RX0 TX0 4, w ∈ wsX0_standsAt := by decide +kernel
  have hinX4 : ∀ w ∈ u_ws RX4 TX4 2, w ∈ wsX0_standsAt := by decide +kernel
  refine lv_iload_n hx hb dX0_standsAt_0 rfl (lv_at hl 1 rfl) ?_
  refine lv_aload_n hx hb dX0_standsAt_1 rfl (lv_at hl 0 rfl) ?_
  refine va_get (D := D) (ci := 0) (v := .int (nI (lx.2.2.2))) (C := RX0) (T := TX0) (N := 4) hx hb hts hinX0 hown hK hP 3 rfl rfl 3 (by decide) (hts (.fieldLink RX0 23 "TypoSuggester$Lexicon" "count" "I") (by decide +kernel)) (fun _ h9 => h9) rfl dX0_standsAt_2 ?_
  refine nz_cge (a := i) (b := lx.2.2.2) (tgt := 33) hx hb dX0_standsAt_5 (by decide) (by omega) (by omega) (fun c_5 => ?_) (fun c_5 => ?_)
  · refine lv_iconst (v := nI 0) hx hb dX0_standsAt_33 (by decide +kernel) ?_
    refine nz_top bI_f ?_
    rw [show false = bb from (by cases bb with | false => rfl | true => exact absurd (hbb.mp rfl) (by first | exact fun h => absurd c_26 (by decide) | omega))]
    exact hret 34 ls dX0_standsAt_34
  · refine lv_aload_n hx hb dX0_standsAt_8 rfl (lv_at hl 0 rfl) ?_
    refine lv_iload_n hx hb dX0_standsAt_9 rfl (lv_at hl 1 rfl) ?_
    refine nz_callR (va_runV (As := [.int (nI (i))]) (rest := []) ⟨hx, hb, hml, hown, hts⟩ (mX0_lengthOf l D a cs tp wd lx ro rs i hB c_5) (cwV 1 hts gX0_standsAt_X0_lengthOf rfl rfl rfl (by decide +kernel) ⟨Nat.le_of_ble_eq_true rfl, Nat.le_of_ble_eq_true rfl⟩) (nz_preV (ci := 0) (q0 := 3) hK hP rfl rfl) rfl rfl hl.1 rfl (lv_room (Nat.le_of_ble_eq_true rfl)) dX0_standsAt_10 ⟨Nat.zero_le _, Nat.zero_le _⟩) ?_
    refine lv_aload_n hx hb dX0_standsAt_13 rfl (lv_at hl 2 rfl) ?_
    refine va_get (D := D) (ci := 4) (v := .int (nI (wd.2))) (C := RX4) (T := TX4) (N := 2) hx hb hts hinX4 hown hK hP 2 rfl rfl 1 (by decide) (hts (.fieldLink RX0 39 "TypoSuggester$Word" "length" "I") (by decide +kernel)) (fun _ h9 => h9) rfl dX0_standsAt_14 ?_
    refine nz_cne (a := lx.2.1 (i + 1) - lx.2.1 i) (b := wd.2) (tgt := 33) hx hb dX0_standsAt_17 (by decide) (by have := hB3 (i + 1); omega) (by omega) (fun c_17 => ?_) (fun c_17 => ?_)
    · refine lv_iconst (v := nI 0) hx hb dX0_standsAt_33 (by decide +kernel) ?_
      refine nz_top bI_f ?_
      rw [show false = bb from (by cases bb with | false => rfl | true => exact absurd (hbb.mp rfl) (by first | exact fun h => absurd c_26 (by decide) | omega))]
      exact hret 34 ls dX0_standsAt_34
    · refine lv_aload_n hx hb dX0_standsAt_20 rfl (lv_at hl 0 rfl) ?_
      refine lv_iload_n hx hb dX0_standsAt_21 rfl (lv_at hl 1 rfl) ?_
      refine lv_aload_n hx hb dX0_standsAt_22 rfl (lv_at hl 2 rfl) ?_
      refine nz_callR (va_runV (As := [.int (nI (i)), .ref (a 2)]) (rest := []) ⟨hx, hb, hml, hown, hts⟩ (mX0_beginsWith l D a cs tp wd lx ro rs i bb hB hW c_5 (by rw [hbb]; exact ⟨fun h => ⟨Nat.le_of_eq c_17.symm, h.2.2⟩, fun h => ⟨c_5, c_17, h.2⟩⟩)) (cwV 2 hts gX0_standsAt_X0_beginsWith rfl rfl rfl (by decide +kernel) ⟨Nat.le_of_ble_eq_true rfl, Nat.le_of_ble_eq_true rfl⟩) (nz_preV (ci := 0) (q0 := 3) hK hP rfl rfl) rfl rfl hl.1 rfl (lv_room (Nat.le_of_ble_eq_true rfl)) dX0_standsAt_23 ⟨Nat.zero_le _, Nat.zero_le _⟩) ?_
      refine nz_ifeqB (tgt := 33) hx hb dX0_standsAt_26 (by decide) (fun c_26 => ?_) (fun c_26 => ?_)
      · refine lv_iconst (v := nI 0) hx hb dX0_standsAt_33 (by decide +kernel) ?_
        refine nz_top bI_f ?_
        rw [show false = bb from (by cases bb with | false => rfl | true => exact absurd (hbb.mp rfl) (by first | exact fun h => absurd c_26 (by decide) | omega))]
        exact hret 34 ls dX0_standsAt_34
      · refine lv_iconst (v := nI 1) hx hb dX0_standsAt_29 (by decide +kernel) ?_
        refine lv_goto (tgt := 34) hx hb dX0_standsAt_30 (by decide) ?_
        refine nz_top bI_t ?_
        rw [show true = bb from (by exact c_26.symm)]
        exact hret 34 ls dX0_standsAt_34
abbrev rmX0_placeOf : Room := { frames := 3, cells := 0, slots := 0, locals := 70 }
set_option maxHeartbeats 4000000 in
set_option maxRecDepth 100000 in
theorem mX0_placeOf (l : Launch) (D : va_G) (a : Nat → Nat) (cs : Nat → ClassId) (tp : (Nat → Int32) × Nat) (wd : (Nat → Nat) × Nat) (lx : (Nat → Nat) × (Nat → Nat) × (Nat → Nat) × Nat) (ro : Nat → Nat) (rs : (Nat → Nat) × (Nat → Nat) × (Nat → Nat) × (Nat → Nat) × (Nat → Nat) × Nat) (r : Nat) (hB : LxB lx) (hW : WdB wd) (hr : r ≤ lx.2.2.2 ∧ (∀ i, i < r → ltF (TX lx i) (ZX lx i) wd.1 wd.2) ∧ (∀ i, r ≤ i → i < lx.2.2.2 → ¬ ltF (TX lx i) (ZX lx i) wd.1 wd.2)) : Met l yX0_placeOf wsX0_placeOf rmX0_placeOf (wdP D vwCl (wX a cs tp wd lx ro rs) (tyX cs) [.ref (a 3), .ref (a 2)]) (rdQ (.int (nI (r)))) 0 0 (fun _ => False) := by
  obtain ⟨hB1, hB2, hB3, hB4, hB5⟩ := id hB
  obtain ⟨hW1, hW2⟩ := id hW
  obtain ⟨hr1, hr2, hr3⟩ := hr
  refine nz_metRi (by decide) rfl (Nat.le_of_ble_eq_true rfl) rfl ?_
  intro p e s m args below meth c Q hx hb hml hts hown hP hK hret ls hl
  have hl : lv_has ls 5 [(0, .ref (a 3)), (1, .ref (a 2))] := hl
  have hown : s.vm.findClass RX0 = some m.cls := hown
  have hinX0 : ∀ w ∈ u_ws RX0 TX0 4, w ∈ wsX0_placeOf := by decide +kernel
  refine lv_iconst (v := nI 0) hx hb dX0_placeOf_0 (by decide +kernel) ?_
  refine lv_istore_n (lv' := [(2, .int (nI (0))), (0, .ref (a 3)), (1, .ref (a 2))]) hx hb dX0_placeOf_1 rfl hl (by decide) rfl (fun ls hl => ?_)
  refine lv_aload_n hx hb dX0_placeOf_2 rfl (lv_at hl 1 rfl) ?_
  refine va_get (D := D) (ci := 0) (v := .int (nI (lx.2.2.2))) (C := RX0) (T := TX0) (N := 4) hx hb hts hinX0 hown hK hP 3 rfl rfl 3 (by decide) (hts (.fieldLink RX0 23 "TypoSuggester$Lexicon" "count" "I") (by decide +kernel)) (fun _ h9 => h9) rfl dX0_placeOf_3 ?_
  refine lv_istore_n (lv' := [(3, .int (nI (lx.2.2.2))), (2, .int (nI (0))), (0, .ref (a 3)), (1, .ref (a 2))]) hx hb dX0_placeOf_6 rfl hl (by decide) rfl (fun ls hl => ?_)
  have loop : ∀ (fuel : Nat) (lo : Nat) (hi : Nat), (lo ≤ r) → (r ≤ hi) → (hi ≤ lx.2.2.2) → hi - lo < fuel → ∀ ls : Array Slot, lv_has ls 5 [(0, .ref (a 3)), (1, .ref (a 2)), (2, .int (nI (lo))), (3, .int (nI (hi)))] → W p l e rmX0_placeOf s m args below meth c s.heap [] 0 0 Q (F0 m 7 ls []) := by
    intro fuel
    induction fuel with
    | zero => intro lo hi h1 h2 h3 hf; exact absurd hf (Nat.not_lt_zero _)
    | succ fuel ih =>
      intro lo hi h1 h2 h3 hf ls hl
      refine lv_iload_n hx hb dX0_placeOf_7 rfl (lv_at hl 2 rfl) ?_
      refine lv_iload_n hx hb dX0_placeOf_8 rfl (lv_at hl 3 rfl) ?_
      refine nz_cge (a := lo) (b := hi) (tgt := 43) hx hb dX0_placeOf_9 (by decide) (by omega) (by omega) (fun c_9 => ?_) (fun c_9 => ?_)
      · have hkr : lo = r := by omega
        refine lv_iload_n hx hb dX0_placeOf_43 rfl (lv_at hl 2 rfl) ?_
        rw [hkr]
        exact hret 44 ls dX0_placeOf_44
      · refine lv_iload_n hx hb dX0_placeOf_12 rfl (lv_at hl 2 rfl) ?_
        refine lv_iload_n hx hb dX0_placeOf_13 rfl (lv_at hl 3 rfl) ?_
        refine nz_iadd (a := lo) (b := hi) hx hb dX0_placeOf_14 ?_
        refine lv_iconst (v := nI 2) hx hb dX0_placeOf_15 (by decide +kernel) ?_
        refine nz_idiv (a := lo + hi) (b := 2) hx hb dX0_placeOf_16 (by omega) (by omega) (by omega) ?_
        refine lv_istore (lv' := [(4, .int (nI ((lo + hi) / 2))), (0, .ref (a 3)), (1, .ref (a 2)), (2, .int (nI (lo))), (3, .int (nI (hi)))]) hx hb dX0_placeOf_17 hl (by decide) rfl (fun ls hl => ?_)
        refine lv_aload_n hx hb dX0_placeOf_19 rfl (lv_at hl 1 rfl) ?_
        refine lv_iload hx hb dX0_placeOf_20 (lv_at hl 0 rfl) ?_
        refine lv_aload_n hx hb dX0_placeOf_22 rfl (lv_at hl 2 rfl) ?_
        refine nz_callR (va_runV (As := [.int (nI ((lo + hi) / 2)), .ref (a 2)]) (rest := []) ⟨hx, hb, hml, hown, hts⟩ (mX0_goesBefore l D a cs tp wd lx ro rs ((lo + hi) / 2) (decide ((lo + hi) / 2 < r)) hB hW (by omega) (pl_dec hr2 hr3 (by omega))) (cwV 2 hts gX0_placeOf_X0_goesBefore rfl rfl rfl (by decide +kernel) ⟨Nat.le_of_ble_eq_true rfl, Nat.le_of_ble_eq_true rfl⟩) (nz_preV (ci := 0) (q0 := 3) hK hP rfl rfl) rfl rfl hl.1 rfl (lv_room (Nat.le_of_ble_eq_true rfl)) dX0_placeOf_23 ⟨Nat.zero_le _, Nat.zero_le _⟩) ?_
        refine nz_ifeqB (tgt := 37) hx hb dX0_placeOf_26 (by decide) (fun c_26 => ?_) (fun c_26 => ?_)
        · have c_26 := of_decide_eq_false c_26
          refine lv_iload hx hb dX0_placeOf_37 (lv_at hl 0 rfl) ?_
          refine lv_istore_n (lv' := [(3, .int (nI ((lo + hi) / 2))), (4, .int (nI ((lo + hi) / 2))), (0, .ref (a 3)), (1, .ref (a 2)), (2, .int (nI (lo)))]) hx hb dX0_placeOf_39 rfl hl (by decide) rfl (fun ls hl => ?_)
          refine lv_goto (tgt := 7) hx hb dX0_placeOf_40 (by decide) ?_
          exact ih lo ((lo + hi) / 2) (by omega) (by omega) (by omega) (by omega) ls (lv_sub hl [2, 3, 4, 0] rfl)
        · have c_26 := of_decide_eq_true c_26
          refine lv_iload hx hb dX0_placeOf_29 (lv_at hl 0 rfl) ?_
          refine lv_iconst (v := nI 1) hx hb dX0_placeOf_31 (by decide +kernel) ?_
          refine nz_iadd (a := (lo + hi) / 2) (b := 1) hx hb dX0_placeOf_32 ?_
          refine lv_istore_n (lv' := [(2, .int (nI ((lo + hi) / 2 + 1))), (4, .int (nI ((lo + hi) / 2))), (0, .ref (a 3)), (1, .ref (a 2)), (3, .int (nI (hi)))]) hx hb dX0_placeOf_33 rfl hl (by decide) rfl (fun ls hl => ?_)
          refine lv_goto (tgt := 40) hx hb dX0_placeOf_34 (by decide) ?_
          refine lv_goto (tgt := 7) hx hb dX0_placeOf_40 (by decide) ?_
          exact ih ((lo + hi) / 2 + 1) hi (by omega) (by omega) (by omega) (by omega) ls (lv_sub hl [2, 3, 0, 4] rfl)
  exact loop (lx.2.2.2 - 0 + 1) 0 lx.2.2.2 (Nat.zero_le _) hr1 (Nat.le_refl _) (Nat.lt_succ_self _) ls (lv_sub hl [2, 3, 1, 0] rfl)
abbrev rmX0_sharedWithNext : Room := { frames := 1, cells := 0, slots := 0, locals := 23 }
set_option maxHeartbeats 4000000 in
set_option maxRecDepth 100000 in
theorem mX0_sharedWithNext (l : Launch) (D : va_G) (a : Nat → Nat) (cs : Nat → ClassId) (tp : (Nat → Int32) × Nat) (wd : (Nat → Nat) × Nat) (lx : (Nat → Nat) × (Nat → Nat) × (Nat → Nat) × Nat) (ro : Nat → Nat) (rs : (Nat → Nat) × (Nat → Nat) × (Nat → Nat) × (Nat → Nat) × (Nat → Nat) × Nat) (i : Nat) (r : Nat) (hB : LxB lx) (hi : i + 1 < lx.2.2.2) (hr : IsLcp (TX lx i) (TX lx (i + 1)) (min (ZX lx i) (ZX lx (i + 1))) r) : Met l yX0_sharedWithNext wsX0_sharedWithNext rmX0_sharedWithNext (wdP D vwCl (wX a cs tp wd lx ro rs) (tyX cs) [.ref (a 3), .int (nI (i))]) (rdQ (.int (nI (r)))) 0 0 (fun _ => False) := by
  obtain ⟨hB1, hB2, hB3, hB4, hB5⟩ := id hB
  have hm := hB2 i (by omega)
  have hm2 := hB3 (i + 1)
  have hm3 := hB2 (i + 1) hi
  have hm4 := hB3 (i + 1 + 1)
  have hr1 : r ≤ min (lx.2.1 (i + 1) - lx.2.1 i) (lx.2.1 (i + 1 + 1) - lx.2.1 (i + 1)) := hr.1
  have hr2 : ∀ j, j < r → lx.1 (lx.2.1 i + j) = lx.1 (lx.2.1 (i + 1) + j) := hr.2.1
  have hr3 : r < min (lx.2.1 (i + 1) - lx.2.1 i) (lx.2.1 (i + 1 + 1) - lx.2.1 (i + 1)) → lx.1 (lx.2.1 i + r) ≠ lx.1 (lx.2.1 (i + 1) + r) := hr.2.2
  refine nz_metRi (by decide) rfl (Nat.le_of_ble_eq_true rfl) rfl ?_
  intro p e s m args below meth c Q hx hb hml hts hown hP hK hret ls hl
  have hl : lv_has ls 4 [(0, .ref (a 3)), (1, .int (nI (i)))] := hl
  have hown : s.vm.findClass RX0 = some m.cls := hown
  have hinX0 : ∀ w ∈ u_ws RX0 TX0 4, w ∈ wsX0_sharedWithNext := by decide +kernel
  refine lv_aload_n hx hb dX0_sharedWithNext_0 rfl (lv_at hl 0 rfl) ?_
  refine lv_iload_n hx hb dX0_sharedWithNext_1 rfl (lv_at hl 1 rfl) ?_
  refine nz_callR (va_runV (As := [.int (nI (i))]) (rest := []) ⟨hx, hb, hml, hown, hts⟩ (mX0_lengthOf l D a cs tp wd lx ro rs i hB (by omega)) (cwV 1 hts gX0_sharedWithNext_X0_lengthOf rfl rfl rfl (by decide +kernel) ⟨Nat.le_of_ble_eq_true rfl, Nat.le_of_ble_eq_true rfl⟩) (nz_preV (ci := 0) (q0 := 3) hK hP rfl rfl) rfl rfl hl.1 rfl (lv_room (Nat.le_of_ble_eq_true rfl)) dX0_sharedWithNext_2 ⟨Nat.zero_le _, Nat.zero_le _⟩) ?_
  refine lv_aload_n hx hb dX0_sharedWithNext_5 rfl (lv_at hl 0 rfl) ?_
  refine lv_iload_n hx hb dX0_sharedWithNext_6 rfl (lv_at hl 1 rfl) ?_
  refine lv_iconst (v := nI 1) hx hb dX0_sharedWithNext_7 (by decide +kernel) ?_
  refine nz_iadd (a := i) (b := 1) hx hb dX0_sharedWithNext_8 ?_
  refine nz_callR (va_runV (As := [.int (nI (i + 1))]) (rest := [.int (nI (lx.2.1 (i + 1) - lx.2.1 i))]) ⟨hx, hb, hml, hown, hts⟩ (mX0_lengthOf l D a cs tp wd lx ro rs (i + 1) hB (by omega)) (cwV 1 hts gX0_sharedWithNext_X0_lengthOf rfl rfl rfl (by decide +kernel) ⟨Nat.le_of_ble_eq_true rfl, Nat.le_of_ble_eq_true rfl⟩) (nz_preV (ci := 0) (q0 := 3) hK hP rfl rfl) rfl rfl hl.1 rfl (lv_room (Nat.le_of_ble_eq_true rfl)) dX0_sharedWithNext_9 ⟨Nat.zero_le _, Nat.zero_le _⟩) ?_
  refine nz_mmin (a := lx.2.1 (i + 1) - lx.2.1 i) (b := lx.2.1 ((i + 1) + 1) - lx.2.1 (i + 1)) hx hb (hml.trans hl.1.symm) hown (hts (.methodLink RX0 48 Lib.Math.min.name) (by decide +kernel)) (hts (.static Lib.Math.min.name) (by decide +kernel)) (hts (.initialized "java/lang/Math") (by decide +kernel)) (hts (.code Lib.Math.min.name Lib.Math.min.code 2 (some .int)) (by decide +kernel)) (Nat.le_of_ble_eq_true rfl) (Nat.le_of_ble_eq_true rfl) (Nat.zero_le _) (Nat.zero_le _) (by omega) (by omega) dX0_sharedWithNext_12 ?_
  refine lv_istore_n (lv' := [(2, .int (nI (min (lx.2.1 (i + 1) - lx.2.1 i) (lx.2.1 ((i + 1) + 1) - lx.2.1 (i + 1))))), (0, .ref (a 3)), (1, .int (nI (i)))]) hx hb dX0_sharedWithNext_15 rfl hl (by decide) rfl (fun ls hl => ?_)
  refine lv_iconst (v := nI 0) hx hb dX0_sharedWithNext_16 (by decide +kernel) ?_
  refine lv_istore_n (lv' := [(3, .int (nI (0))), (2, .int (nI (min (lx.2.1 (i + 1) - lx.2.1 i) (lx.2.1 ((i + 1) + 1) - lx.2.1 (i + 1))))), (0, .ref (a 3)), (1, .int (nI (i)))]) hx hb dX0_sharedWithNext_17 rfl hl (by decide) rfl (fun ls hl => ?_)
  have loop : ∀ (fuel : Nat) (k : Nat), (k ≤ r) → r - k < fuel → ∀ ls : Array Slot, lv_has ls 4 [(0, .ref (a 3)), (1, .int (nI (i))), (2, .int (nI (min (lx.2.1 (i + 1) - lx.2.1 i) (lx.2.1 (i + 1 + 1) - lx.2.1 (i + 1))))), (3, .int (nI (k)))] → W p l e rmX0_sharedWithNext s m args below meth c s.heap [] 0 0 Q (F0 m 18 ls []) := by
    intro fuel
    induction fuel with
    | zero => intro k hk hf; exact absurd hf (Nat.not_lt_zero _)
    | succ fuel ih =>
      intro k hk hf ls hl
      refine lv_iload_n hx hb dX0_sharedWithNext_18 rfl (lv_at hl 3 rfl) ?_
      refine lv_iload_n hx hb dX0_sharedWithNext_19 rfl (lv_at hl 2 rfl) ?_
      refine nz_cge (a := k) (b := min (lx.2.1 (i + 1) - lx.2.1 i) (lx.2.1 (i + 1 + 1) - lx.2.1 (i + 1))) (tgt := 60) hx hb dX0_sharedWithNext_20 (by decide) (by omega) (by omega) (fun c_20 => ?_) (fun c_20 => ?_)
      · have hkr : k = r := by omega
        refine lv_iload_n hx hb dX0_sharedWithNext_60 rfl (lv_at hl 3 rfl) ?_
        rw [hkr]
        exact hret 61 ls dX0_sharedWithNext_61
      · refine lv_aload_n hx hb dX0_sharedWithNext_23 rfl (lv_at hl 0 rfl) ?_
        refine va_get (D := D) (ci := 0) (v := .ref (a 8)) (C := RX0) (T := TX0) (N := 4) hx hb hts hinX0 hown hK hP 3 rfl rfl 0 (by decide) (hts (.fieldLink RX0 9 "TypoSuggester$Lexicon" "letters" "[B") (by decide +kernel)) (fun _ h9 => h9) rfl dX0_sharedWithNext_24 ?_
        refine lv_aload_n hx hb dX0_sharedWithNext_27 rfl (lv_at hl 0 rfl) ?_
        refine va_get (D := D) (ci := 0) (v := .ref (a 9)) (C := RX0) (T := TX0) (N := 4) hx hb hts hinX0 hown hK hP 3 rfl rfl 1 (by decide) (hts (.fieldLink RX0 15 "TypoSuggester$Lexicon" "starts" "[I") (by decide +kernel)) (fun _ h9 => h9) rfl dX0_sharedWithNext_28 ?_
        refine lv_iload_n hx hb dX0_sharedWithNext_31 rfl (lv_at hl 1 rfl) ?_
        refine nz_iald (f := lx.2.1) (k := i) hx hb hK hP 9 1 rfl rfl (by omega) (by decide) dX0_sharedWithNext_32 ?_
        refine lv_iload_n hx hb dX0_sharedWithNext_33 rfl (lv_at hl 3 rfl) ?_
        refine nz_iadd (a := lx.2.1 i) (b := k) hx hb dX0_sharedWithNext_34 ?_
        refine nz_bald (f := lx.1) (k := lx.2.1 i + k) hx hb hK hP 8 0 rfl rfl (by omega) (by decide) dX0_sharedWithNext_35 ?_
        refine lv_aload_n hx hb dX0_sharedWithNext_36 rfl (lv_at hl 0 rfl) ?_
        refine va_get (D := D) (ci := 0) (v := .ref (a 8)) (C := RX0) (T := TX0) (N := 4) hx hb hts hinX0 hown hK hP 3 rfl rfl 0 (by decide) (hts (.fieldLink RX0 9 "TypoSuggester$Lexicon" "letters" "[B") (by decide +kernel)) (fun _ h9 => h9) rfl dX0_sharedWithNext_37 ?_
        refine lv_aload_n hx hb dX0_sharedWithNext_40 rfl (lv_at hl 0 rfl) ?_
        refine va_get (D := D) (ci := 0) (v := .ref (a 9)) (C := RX0) (T := TX0) (N := 4) hx hb hts hinX0 hown hK hP 3 rfl rfl 1 (by decide) (hts (.fieldLink RX0 15 "TypoSuggester$Lexicon" "starts" "[I") (by decide +kernel)) (fun _ h9 => h9) rfl dX0_sharedWithNext_41 ?_
        refine lv_iload_n hx hb dX0_sharedWithNext_44 rfl (lv_at hl 1 rfl) ?_
        refine lv_iconst (v := nI 1) hx hb dX0_sharedWithNext_45 (by decide +kernel) ?_
        refine nz_iadd (a := i) (b := 1) hx hb dX0_sharedWithNext_46 ?_
        refine nz_iald (f := lx.2.1) (k := i + 1) hx hb hK hP 9 1 rfl rfl (by omega) (by decide) dX0_sharedWithNext_47 ?_
        refine lv_iload_n hx hb dX0_sharedWithNext_48 rfl (lv_at hl 3 rfl) ?_
        refine nz_iadd (a := lx.2.1 (i + 1)) (b := k) hx hb dX0_sharedWithNext_49 ?_
        refine nz_bald (f := lx.1) (k := lx.2.1 (i + 1) + k) hx hb hK hP 8 0 rfl rfl (by omega) (by decide) dX0_sharedWithNext_50 ?_
        refine nz_cne (a := lx.1 (lx.2.1 i + k)) (b := lx.1 (lx.2.1 (i + 1) + k)) (tgt := 60) hx hb dX0_sharedWithNext_51 (by decide) (by have := hB4 (lx.2.1 i + k); omega) (by have := hB4 (lx.2.1 (i + 1) + k); omega) (fun c_51 => ?_) (fun c_51 => ?_)
        · have hkr : k = r := by
            rcases Nat.lt_or_ge k r with h | h
            · exact absurd (hr2 k h) c_51
            · omega
          refine lv_iload_n hx hb dX0_sharedWithNext_60 rfl (lv_at hl 3 rfl) ?_
          rw [hkr]
          exact hret 61 ls dX0_sharedWithNext_61
        · have hkr : k < r := by
            rcases Nat.lt_or_ge k r with h | h
            · exact h
            · have h2 : k = r := by omega
              rw [h2] at c_20 c_51
              exact absurd c_51 (hr3 c_20)
          refine lv_iinc (v := nI (k + 1)) (lv' := [(3, .int (nI (k + 1))), (0, .ref (a 3)), (1, .int (nI (i))), (2, .int (nI (min (lx.2.1 (i + 1) - lx.2.1 i) (lx.2.1 (i + 1 + 1) - lx.2.1 (i + 1)))))]) hx hb dX0_sharedWithNext_54 hl (k := 3) rfl (nz_inc1 _) (by decide) rfl (fun ls hl => ?_)
          refine lv_goto (tgt := 18) hx hb dX0_sharedWithNext_57 (by decide) ?_
          exact ih (k + 1) (by omega) (by omega) ls (lv_sub hl [1, 2, 3, 0] rfl)
  exact loop (r - 0 + 1) 0 (Nat.zero_le _) (Nat.lt_succ_self _) ls (lv_sub hl [2, 3, 1, 0] rfl)
abbrev rmX0_rankOf : Room := { frames := 0, cells := 0, slots := 0, locals := 0 }
set_option maxHeartbeats 4000000 in
set_option maxRecDepth 100000 in
theorem mX0_rankOf (l : Launch) (D : va_G) (a : Nat → Nat) (cs : Nat → ClassId) (tp : (Nat → Int32) × Nat) (wd : (Nat → Nat) × Nat) (lx : (Nat → Nat) × (Nat → Nat) × (Nat → Nat) × Nat) (ro : Nat → Nat) (rs : (Nat → Nat) × (Nat → Nat) × (Nat → Nat) × (Nat → Nat) × (Nat → Nat) × Nat) (i : Nat) (hB : LxB lx) (hi : i < lx.2.2.2) : Met l yX0_rankOf wsX0_rankOf rmX0_rankOf (wdP D vwCl (wX a cs tp wd lx ro rs) (tyX cs) [.ref (a 3), .int (nI (i))]) (rdQ (.int (nI (cntF (fun j => decide (lx.2.2.1 i < lx.2.2.1 j ∨ (lx.2.2.1 j = lx.2.2.1 i ∧ j < i))) lx.2.2.2)))) 0 0 (fun _ => False) := by
  obtain ⟨hB1, hB2, hB3, hB4, hB5⟩ := id hB
  refine nz_metRi (by decide) rfl (Nat.le_of_ble_eq_true rfl) rfl ?_
  intro p e s m args below meth c Q hx hb hml hts hown hP hK hret ls hl
  have hl : lv_has ls 4 [(0, .ref (a 3)), (1, .int (nI (i)))] := hl
  have hown : s.vm.findClass RX0 = some m.cls := hown
  have hinX0 : ∀ w ∈ u_ws RX0 TX0 4, w ∈ wsX0_rankOf := by decide +kernel
  refine lv_iconst (v := nI 0) hx hb dX0_rankOf_0 (by decide +kernel) ?_
  refine lv_istore_n (lv' := [(2, .int (nI (0))), (0, .ref (a 3)), (1, .int (nI (i)))]) hx hb dX0_rankOf_1 rfl hl (by decide) rfl (fun ls hl => ?_)
  refine lv_iconst (v := nI 0) hx hb dX0_rankOf_2 (by decide +kernel) ?_
  refine lv_istore_n (lv' := [(3, .int (nI (0))), (2, .int (nI (0))), (0, .ref (a 3)), (1, .int (nI (i)))]) hx hb dX0_rankOf_3 rfl hl (by decide) rfl (fun ls hl => ?_)
  have loop : ∀ (fuel : Nat) (k : Nat), (k ≤ lx.2.2.2) → lx.2.2.2 - k < fuel → ∀ ls : Array Slot, lv_has ls 4 [(0, .ref (a 3)), (1, .int (nI (i))), (2, .int (nI (cntF (fun j => decide (lx.2.2.1 i < lx.2.2.1 j ∨ (lx.2.2.1 j = lx.2.2.1 i ∧ j < i))) k))), (3, .int (nI (k)))] → W p l e rmX0_rankOf s m args below meth c s.heap [] 0 0 Q (F0 m 4 ls []) := by
    intro fuel
    induction fuel with
    | zero => intro k hk hf; exact absurd hf (Nat.not_lt_zero _)
    | succ fuel ih =>
      intro k hk hf ls hl
      have hc := cntF_le (fun j => decide (lx.2.2.1 i < lx.2.2.1 j ∨ (lx.2.2.1 j = lx.2.2.1 i ∧ j < i))) k
      have hw1 := hB5 k
      have hw2 := hB5 i
      refine lv_iload_n hx hb dX0_rankOf_4 rfl (lv_at hl 3 rfl) ?_
      refine lv_aload_n hx hb dX0_rankOf_5 rfl (lv_at hl 0 rfl) ?_
      refine va_get (D := D) (ci := 0) (v := .int (nI (lx.2.2.2))) (C := RX0) (T := TX0) (N := 4) hx hb hts hinX0 hown hK hP 3 rfl rfl 3 (by decide) (hts (.fieldLink RX0 23 "TypoSuggester$Lexicon" "count" "I") (by decide +kernel)) (fun _ h9 => h9) rfl dX0_rankOf_6 ?_
      refine nz_cge (a := k) (b := lx.2.2.2) (tgt := 58) hx hb dX0_rankOf_9 (by decide) (by omega) (by omega) (fun c_9 => ?_) (fun c_9 => ?_)
      · refine lv_iload_n hx hb dX0_rankOf_58 rfl (lv_at hl 2 rfl) ?_
        rw [show k = lx.2.2.2 by omega]
        exact hret 59 ls dX0_rankOf_59
      · refine lv_aload_n hx hb dX0_rankOf_12 rfl (lv_at hl 0 rfl) ?_
        refine va_get (D := D) (ci := 0) (v := .ref (a 10)) (C := RX0) (T := TX0) (N := 4) hx hb hts hinX0 hown hK hP 3 rfl rfl 2 (by decide) (hts (.fieldLink RX0 19 "TypoSuggester$Lexicon" "weights" "[J") (by decide +kernel)) (fun _ h9 => h9) rfl dX0_rankOf_13 ?_
        refine lv_iload_n hx hb dX0_rankOf_16 rfl (lv_at hl 3 rfl) ?_
        refine nz_lald (f := lx.2.2.1) (k := k) hx hb hK hP 10 2 rfl rfl (by omega) (by decide) dX0_rankOf_17 ?_
        refine lv_aload_n hx hb dX0_rankOf_18 rfl (lv_at hl 0 rfl) ?_
        refine va_get (D := D) (ci := 0) (v := .ref (a 10)) (C := RX0) (T := TX0) (N := 4) hx hb hts hinX0 hown hK hP 3 rfl rfl 2 (by decide) (hts (.fieldLink RX0 19 "TypoSuggester$Lexicon" "weights" "[J") (by decide +kernel)) (fun _ h9 => h9) rfl dX0_rankOf_19 ?_
        refine lv_iload_n hx hb dX0_rankOf_22 rfl (lv_at hl 1 rfl) ?_
        refine nz_lald (f := lx.2.2.1) (k := i) hx hb hK hP 10 2 rfl rfl (by omega) (by decide) dX0_rankOf_23 ?_
        refine W.lcmp hx hb dX0_rankOf_24 ?_
        refine nz_lgt (a := lx.2.2.1 k) (b := lx.2.2.1 i) (tgt := 49) hx hb dX0_rankOf_25 (by decide) (by omega) (by omega) (fun c_25 => ?_) (fun c_25 => ?_)
        · refine lv_iinc (v := nI (cntF (fun j => decide (lx.2.2.1 i < lx.2.2.1 j ∨ (lx.2.2.1 j = lx.2.2.1 i ∧ j < i))) k + 1)) (lv' := [(2, .int (nI (cntF (fun j => decide (lx.2.2.1 i < lx.2.2.1 j ∨ (lx.2.2.1 j = lx.2.2.1 i ∧ j < i))) k + 1))), (0, .ref (a 3)), (1, .int (nI (i))), (3, .int (nI (k)))]) hx hb dX0_rankOf_49 hl (k := 2) rfl (nz_inc1 _) (by decide) rfl (fun ls hl => ?_)
          have hstep : cntF (fun j => decide (lx.2.2.1 i < lx.2.2.1 j ∨ (lx.2.2.1 j = lx.2.2.1 i ∧ j < i))) (k + 1) = cntF (fun j => decide (lx.2.2.1 i < lx.2.2.1 j ∨ (lx.2.2.1 j = lx.2.2.1 i ∧ j < i))) k + 1 := cntF_t (by rw [decide_eq_true_iff]; omega)
          have hl : lv_has ls 4 [(2, .int (nI (cntF (fun j => decide (lx.2.2.1 i < lx.2.2.1 j ∨ (lx.2.2.1 j = lx.2.2.1 i ∧ j < i))) (k + 1)))), (0, .ref (a 3)), (1, .int (nI (i))), (3, .int (nI (k)))] := by rw [hstep]; exact hl
          refine lv_iinc (v := nI (k + 1)) (lv' := [(3, .int (nI (k + 1))), (2, .int (nI (cntF (fun j => decide (lx.2.2.1 i < lx.2.2.1 j ∨ (lx.2.2.1 j = lx.2.2.1 i ∧ j < i))) (k + 1)))), (0, .ref (a 3)), (1, .int (nI (i)))]) hx hb dX0_rankOf_52 hl (k := 3) rfl (nz_inc1 _) (by decide) rfl (fun ls hl => ?_)
          refine lv_goto (tgt := 4) hx hb dX0_rankOf_55 (by decide) ?_
          exact ih (k + 1) (by omega) (by omega) ls (lv_sub hl [2, 3, 1, 0] rfl)
        · refine lv_aload_n hx hb dX0_rankOf_28 rfl (lv_at hl 0 rfl) ?_
          refine va_get (D := D) (ci := 0) (v := .ref (a 10)) (C := RX0) (T := TX0) (N := 4) hx hb hts hinX0 hown hK hP 3 rfl rfl 2 (by decide) (hts (.fieldLink RX0 19 "TypoSuggester$Lexicon" "weights" "[J") (by decide +kernel)) (fun _ h9 => h9) rfl dX0_rankOf_29 ?_
          refine lv_iload_n hx hb dX0_rankOf_32 rfl (lv_at hl 3 rfl) ?_
          refine nz_lald (f := lx.2.2.1) (k := k) hx hb hK hP 10 2 rfl rfl (by omega) (by decide) dX0_rankOf_33 ?_
          refine lv_aload_n hx hb dX0_rankOf_34 rfl (lv_at hl 0 rfl) ?_
          refine va_get (D := D) (ci := 0) (v := .ref (a 10)) (C := RX0) (T := TX0) (N := 4) hx hb hts hinX0 hown hK hP 3 rfl rfl 2 (by decide) (hts (.fieldLink RX0 19 "TypoSuggester$Lexicon" "weights" "[J") (by decide +kernel)) (fun _ h9 => h9) rfl dX0_rankOf_35 ?_
          refine lv_iload_n hx hb dX0_rankOf_38 rfl (lv_at hl 1 rfl) ?_
          refine nz_lald (f := lx.2.2.1) (k := i) hx hb hK hP 10 2 rfl rfl (by omega) (by decide) dX0_rankOf_39 ?_
          refine W.lcmp hx hb dX0_rankOf_40 ?_
          refine nz_lne (a := lx.2.2.1 k) (b := lx.2.2.1 i) (tgt := 52) hx hb dX0_rankOf_41 (by decide) (by omega) (by omega) (fun c_41 => ?_) (fun c_41 => ?_)
          · have hstep : cntF (fun j => decide (lx.2.2.1 i < lx.2.2.1 j ∨ (lx.2.2.1 j = lx.2.2.1 i ∧ j < i))) (k + 1) = cntF (fun j => decide (lx.2.2.1 i < lx.2.2.1 j ∨ (lx.2.2.1 j = lx.2.2.1 i ∧ j < i))) k := cntF_f (by rw [decide_eq_false_iff_not]; omega)
            have hl : lv_has ls 4 [(0, .ref (a 3)), (1, .int (nI (i))), (2, .int (nI (cntF (fun j => decide (lx.2.2.1 i < lx.2.2.1 j ∨ (lx.2.2.1 j = lx.2.2.1 i ∧ j < i))) (k + 1)))), (3, .int (nI (k)))] := by rw [hstep]; exact hl
            refine lv_iinc (v := nI (k + 1)) (lv' := [(3, .int (nI (k + 1))), (0, .ref (a 3)), (1, .int (nI (i))), (2, .int (nI (cntF (fun j => decide (lx.2.2.1 i < lx.2.2.1 j ∨ (lx.2.2.1 j = lx.2.2.1 i ∧ j < i))) (k + 1))))]) hx hb dX0_rankOf_52 hl (k := 3) rfl (nz_inc1 _) (by decide) rfl (fun ls hl => ?_)
            refine lv_goto (tgt := 4) hx hb dX0_rankOf_55 (by decide) ?_
            exact ih (k + 1) (by omega) (by omega) ls (lv_sub hl [1, 2, 3, 0] rfl)
          · refine lv_iload_n hx hb dX0_rankOf_44 rfl (lv_at hl 3 rfl) ?_
            refine lv_iload_n hx hb dX0_rankOf_45 rfl (lv_at hl 1 rfl) ?_
            refine nz_cge (a := k) (b := i) (tgt := 52) hx hb dX0_rankOf_46 (by decide) (by omega) (by omega) (fun c_46 => ?_) (fun c_46 => ?_)
            · have hstep : cntF (fun j => decide (lx.2.2.1 i < lx.2.2.1 j ∨ (lx.2.2.1 j = lx.2.2.1 i ∧ j < i))) (k + 1) = cntF (fun j => decide (lx.2.2.1 i < lx.2.2.1 j ∨ (lx.2.2.1 j = lx.2.2.1 i ∧ j < i))) k := cntF_f (by rw [decide_eq_false_iff_not]; omega)
              have hl : lv_has ls 4 [(0, .ref (a 3)), (1, .int (nI (i))), (2, .int (nI (cntF (fun j => decide (lx.2.2.1 i < lx.2.2.1 j ∨ (lx.2.2.1 j = lx.2.2.1 i ∧ j < i))) (k + 1)))), (3, .int (nI (k)))] := by rw [hstep]; exact hl
              refine lv_iinc (v := nI (k + 1)) (lv' := [(3, .int (nI (k + 1))), (0, .ref (a 3)), (1, .int (nI (i))), (2, .int (nI (cntF (fun j => decide (lx.2.2.1 i < lx.2.2.1 j ∨ (lx.2.2.1 j = lx.2.2.1 i ∧ j < i))) (k + 1))))]) hx hb dX0_rankOf_52 hl (k := 3) rfl (nz_inc1 _) (by decide) rfl (fun ls hl => ?_)
              refine lv_goto (tgt := 4) hx hb dX0_rankOf_55 (by decide) ?_
              exact ih (k + 1) (by omega) (by omega) ls (lv_sub hl [1, 2, 3, 0] rfl)
            · refine lv_iinc (v := nI (cntF (fun j => decide (lx.2.2.1 i < lx.2.2.1 j ∨ (lx.2.2.1 j = lx.2.2.1 i ∧ j < i))) k + 1)) (lv' := [(2, .int (nI (cntF (fun j => decide (lx.2.2.1 i < lx.2.2.1 j ∨ (lx.2.2.1 j = lx.2.2.1 i ∧ j < i))) k + 1))), (0, .ref (a 3)), (1, .int (nI (i))), (3, .int (nI (k)))]) hx hb dX0_rankOf_49 hl (k := 2) rfl (nz_inc1 _) (by decide) rfl (fun ls hl => ?_)
              have hstep : cntF (fun j => decide (lx.2.2.1 i < lx.2.2.1 j ∨ (lx.2.2.1 j = lx.2.2.1 i ∧ j < i))) (k + 1) = cntF (fun j => decide (lx.2.2.1 i < lx.2.2.1 j ∨ (lx.2.2.1 j = lx.2.2.1 i ∧ j < i))) k + 1 := cntF_t (by rw [decide_eq_true_iff]; omega)
              have hl : lv_has ls 4 [(2, .int (nI (cntF (fun j => decide (lx.2.2.1 i < lx.2.2.1 j ∨ (lx.2.2.1 j = lx.2.2.1 i ∧ j < i))) (k + 1)))), (0, .ref (a 3)), (1, .int (nI (i))), (3, .int (nI (k)))] := by rw [hstep]; exact hl
              refine lv_iinc (v := nI (k + 1)) (lv' := [(3, .int (nI (k + 1))), (2, .int (nI (cntF (fun j => decide (lx.2.2.1 i < lx.2.2.1 j ∨ (lx.2.2.1 j = lx.2.2.1 i ∧ j < i))) (k + 1)))), (0, .ref (a 3)), (1, .int (nI (i)))]) hx hb dX0_rankOf_52 hl (k := 3) rfl (nz_inc1 _) (by decide) rfl (fun ls hl => ?_)
              refine lv_goto (tgt := 4) hx hb dX0_rankOf_55 (by decide) ?_
              exact ih (k + 1) (by omega) (by omega) ls (lv_sub hl [2, 3, 1, 0] rfl)
  exact loop (lx.2.2.2 - 0 + 1) 0 (Nat.zero_le _) (Nat.lt_succ_self _) ls (lv_sub hl [2, 3, 1, 0] rfl)
abbrev rmX0_countPrefixes : Room := { frames := 2, cells := 0, slots := 0, locals := 46 }
set_option maxHeartbeats 4000000 in
set_option maxRecDepth 100000 in
theorem mX0_countPrefixes (l : Launch) (D : va_G) (a : Nat → Nat) (cs : Nat → ClassId) (tp : (Nat → Int32) × Nat) (wd : (Nat → Nat) × Nat) (lx : (Nat → Nat) × (Nat → Nat) × (Nat → Nat) × Nat) (ro : Nat → Nat) (rs : (Nat → Nat) × (Nat → Nat) × (Nat → Nat) × (Nat → Nat) × (Nat → Nat) × Nat) (sh : Nat → Nat) (hB : LxB lx) (hsh : ∀ i, i + 1 < lx.2.2.2 → IsLcp (TX lx i) (TX lx (i + 1)) (min (ZX lx i) (ZX lx (i + 1))) (sh i)) : Met l yX0_countPrefixes wsX0_countPrefixes rmX0_countPrefixes (wdP D vwCl (wX a cs tp wd lx ro rs) (tyX cs) [.ref (a 3)]) (rdQ (.int (nI (if lx.2.2.2 = 0 then 0 else 1 + lx.2.1 lx.2.2.2 - sumF sh (lx.2.2.2 - 1))))) 0 0 (fun _ => False) := by
  obtain ⟨hB1, hB2, hB3, hB4, hB5⟩ := id hB
  have hmo : ∀ k, k ≤ lx.2.2.2 → lx.2.1 k ≤ lx.2.1 lx.2.2.2 := fun k hk => lx_mono hB k _ hk (Nat.le_refl _)
  refine nz_metRi (by decide) rfl (Nat.le_of_ble_eq_true rfl) rfl ?_
  intro p e s m args below meth c Q hx hb hml hts hown hP hK hret ls hl
  have hl : lv_has ls 3 [(0, .ref (a 3))] := hl
  have hown : s.vm.findClass RX0 = some m.cls := hown
  have hinX0 : ∀ w ∈ u_ws RX0 TX0 4, w ∈ wsX0_countPrefixes := by decide +kernel
  refine lv_aload_n hx hb dX0_countPrefixes_0 rfl (lv_at hl 0 rfl) ?_
  refine va_get (D := D) (ci := 0) (v := .int (nI (lx.2.2.2))) (C := RX0) (T := TX0) (N := 4) hx hb hts hinX0 hown hK hP 3 rfl rfl 3 (by decide) (hts (.fieldLink RX0 23 "TypoSuggester$Lexicon" "count" "I") (by decide +kernel)) (fun _ h9 => h9) rfl dX0_countPrefixes_1 ?_
  refine nz_ifne (a := lx.2.2.2) (tgt := 9) hx hb dX0_countPrefixes_4 (by decide) (by omega) (fun c_4 => ?_) (fun c_4 => ?_)
  · refine lv_iconst (v := nI 1) hx hb dX0_countPrefixes_9 (by decide +kernel) ?_
    refine lv_aload_n hx hb dX0_countPrefixes_10 rfl (lv_at hl 0 rfl) ?_
    refine nz_callR (va_runV (As := []) (rest := [.int (nI (1))]) ⟨hx, hb, hml, hown, hts⟩ (mX0_size l D a cs tp wd lx ro rs hB) (cwV 0 hts gX0_countPrefixes_X0_size rfl rfl rfl (by decide +kernel) ⟨Nat.le_of_ble_eq_true rfl, Nat.le_of_ble_eq_true rfl⟩) (nz_preV (ci := 0) (q0 := 3) hK hP rfl rfl) rfl rfl hl.1 rfl (lv_room (Nat.le_of_ble_eq_true rfl)) dX0_countPrefixes_11 ⟨Nat.zero_le _, Nat.zero_le _⟩) ?_
    refine nz_iadd (a := 1) (b := lx.2.1 lx.2.2.2) hx hb dX0_countPrefixes_14 ?_
    refine nz_top (y := nI (1 + (lx.2.1 lx.2.2.2))) (by rfl) ?_
    refine lv_istore_n (lv' := [(1, .int (nI (1 + (lx.2.1 lx.2.2.2)))), (0, .ref (a 3))]) hx hb dX0_countPrefixes_15 rfl hl (by decide) rfl (fun ls hl => ?_)
    refine lv_iconst (v := nI 0) hx hb dX0_countPrefixes_16 (by decide +kernel) ?_
    refine lv_istore_n (lv' := [(2, .int (nI (0))), (1, .int (nI (1 + (lx.2.1 lx.2.2.2)))), (0, .ref (a 3))]) hx hb dX0_countPrefixes_17 rfl hl (by decide) rfl (fun ls hl => ?_)
    have loop : ∀ (fuel : Nat) (k : Nat), (k + 1 ≤ lx.2.2.2) → (sumF sh k ≤ lx.2.1 k) → lx.2.2.2 - k < fuel → ∀ ls : Array Slot, lv_has ls 3 [(0, .ref (a 3)), (1, .int (nI (1 + lx.2.1 lx.2.2.2 - sumF sh k))), (2, .int (nI (k)))] → W p l e rmX0_countPrefixes s m args below meth c s.heap [] 0 0 Q (F0 m 18 ls []) := by
      intro fuel
      induction fuel with
      | zero => intro k hk hs hf; exact absurd hf (Nat.not_lt_zero _)
      | succ fuel ih =>
        intro k hk hs hf ls hl
        have hmk := hmo k (by omega)
        have hmk2 := hB3 lx.2.2.2
        refine lv_iload_n hx hb dX0_countPrefixes_18 rfl (lv_at hl 2 rfl) ?_
        refine lv_iconst (v := nI 1) hx hb dX0_countPrefixes_19 (by decide +kernel) ?_
        refine nz_iadd (a := k) (b := 1) hx hb dX0_countPrefixes_20 ?_
        refine lv_aload_n hx hb dX0_countPrefixes_21 rfl (lv_at hl 0 rfl) ?_
        refine va_get (D := D) (ci := 0) (v := .int (nI (lx.2.2.2))) (C := RX0) (T := TX0) (N := 4) hx hb hts hinX0 hown hK hP 3 rfl rfl 3 (by decide) (hts (.fieldLink RX0 23 "TypoSuggester$Lexicon" "count" "I") (by decide +kernel)) (fun _ h9 => h9) rfl dX0_countPrefixes_22 ?_
        refine nz_cge (a := k + 1) (b := lx.2.2.2) (tgt := 42) hx hb dX0_countPrefixes_25 (by decide) (by omega) (by omega) (fun c_25 => ?_) (fun c_25 => ?_)
        · refine lv_iload_n hx hb dX0_countPrefixes_42 rfl (lv_at hl 1 rfl) ?_
          rw [if_neg (show ¬ lx.2.2.2 = 0 by omega)] at hret
          rw [show k = lx.2.2.2 - 1 by omega]
          exact hret 43 ls dX0_countPrefixes_43
        · refine lv_iload_n hx hb dX0_countPrefixes_28 rfl (lv_at hl 1 rfl) ?_
          refine lv_aload_n hx hb dX0_countPrefixes_29 rfl (lv_at hl 0 rfl) ?_
          refine lv_iload_n hx hb dX0_countPrefixes_30 rfl (lv_at hl 2 rfl) ?_
          have hsk := hsh k (by omega)
          have hsk1 : sh k ≤ min (lx.2.1 (k + 1) - lx.2.1 k) (lx.2.1 (k + 1 + 1) - lx.2.1 (k + 1)) := hsk.1
          have hbk := hB2 k (by omega)
          have hbk2 := hmo (k + 1) (by omega)
          refine nz_callR (va_runV (As := [.int (nI (k))]) (rest := [.int (nI (1 + lx.2.1 lx.2.2.2 - sumF sh k))]) ⟨hx, hb, hml, hown, hts⟩ (mX0_sharedWithNext l D a cs tp wd lx ro rs k (sh k) hB (by omega) (hsh k (by omega))) (cwV 1 hts gX0_countPrefixes_X0_sharedWithNext rfl rfl rfl (by decide +kernel) ⟨Nat.le_of_ble_eq_true rfl, Nat.le_of_ble_eq_true rfl⟩) (nz_preV (ci := 0) (q0 := 3) hK hP rfl rfl) rfl rfl hl.1 rfl (lv_room (Nat.le_of_ble_eq_true rfl)) dX0_countPrefixes_31 ⟨Nat.zero_le _, Nat.zero_le _⟩) ?_
          refine nz_isub (a := 1 + lx.2.1 lx.2.2.2 - sumF sh k) (b := (sh k)) hx hb dX0_countPrefixes_34 (by omega) ?_
          refine lv_istore_n (lv' := [(1, .int (nI ((1 + lx.2.1 lx.2.2.2 - sumF sh k) - ((sh k))))), (0, .ref (a 3)), (2, .int (nI (k)))]) hx hb dX0_countPrefixes_35 rfl hl (by decide) rfl (fun ls hl => ?_)
          have hl : lv_has ls 3 [(1, .int (nI (1 + lx.2.1 lx.2.2.2 - sumF sh (k + 1)))), (0, .ref (a 3)), (2, .int (nI (k)))] := by rw [show 1 + lx.2.1 lx.2.2.2 - sumF sh (k + 1) = 1 + lx.2.1 lx.2.2.2 - sumF sh k - sh k by show 1 + lx.2.1 lx.2.2.2 - (sumF sh k + sh k) = _; omega]; exact hl
          refine lv_iinc (v := nI (k + 1)) (lv' := [(2, .int (nI (k + 1))), (1, .int (nI (1 + lx.2.1 lx.2.2.2 - sumF sh (k + 1)))), (0, .ref (a 3))]) hx hb dX0_countPrefixes_36 hl (k := 2) rfl (nz_inc1 _) (by decide) rfl (fun ls hl => ?_)
          refine lv_goto (tgt := 18) hx hb dX0_countPrefixes_39 (by decide) ?_
          exact ih (k + 1) (by omega) (by show sumF sh k + sh k ≤ _; omega) (by omega) ls (lv_sub hl [2, 1, 0] rfl)
    exact loop (lx.2.2.2 - 0 + 1) 0 (by omega) (Nat.zero_le _) (Nat.lt_succ_self _) ls (lv_sub hl [2, 1, 0] rfl)
  · refine lv_iconst (v := nI 0) hx hb dX0_countPrefixes_7 (by decide +kernel) ?_
    rw [if_pos (show lx.2.2.2 = 0 by omega)] at hret
    exact hret 8 ls dX0_countPrefixes_8
