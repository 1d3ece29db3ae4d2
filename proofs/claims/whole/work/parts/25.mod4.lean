/-! The reference: prefixes and the readers, learn. -/
theorem lowN_lt (x : Int32) : lowN x < 128 := by
  rcases lowN_or x with h | h
  · rw [h.2]
    decide
  · omega
def MrB (mr : (Nat → Nat) × (Nat → Nat) × (Nat → Nat) × (Nat → Nat) × Nat) : Prop := mr.2.2.2.2 ≤ 50 ∧ (∀ j, mr.2.1 j ≤ 24) ∧ (∀ j, mr.2.2.1 j ≤ 1000000000000) ∧ (∀ j, mr.2.2.2.1 j ≤ 100)
abbrev rmX6_found : Room := { frames := 0, cells := 0, slots := 0, locals := 0 }
set_option maxHeartbeats 4000000 in
set_option maxRecDepth 100000 in
theorem mX6_found (l : Launch) (D : va_G) (b : Nat → Nat) (cs : Nat → ClassId) (mt : (Nat → Int32) × Nat) (ml : (Nat → Nat) × (Nat → Nat) × (Nat → Nat) × Nat × Nat) (mr : (Nat → Nat) × (Nat → Nat) × (Nat → Nat) × (Nat → Nat) × Nat) (mk : (Nat → Bool) × (Nat → Nat) × (Nat → Nat)) : Met l yX6_found wsX6_found rmX6_found (wdP D vwCl (wM b cs mt ml mr mk) (tyX cs) [.ref (b 0)]) (rdQ (.int (nI (mr.2.2.2.2)))) 0 0 (fun _ => False) := by
  refine nz_metRi (by decide) rfl (Nat.le_of_ble_eq_true rfl) rfl ?_
  intro p e s m args below meth c Q hx hb hml hts hown hP hK hret ls hl
  have hl : lv_has ls 1 [(0, .ref (b 0))] := hl
  have hown : s.vm.findClass RX6 = some m.cls := hown
  have hinX6 : ∀ w ∈ u_ws RX6 TX6 15, w ∈ wsX6_found := by decide +kernel
  refine lv_aload_n hx hb dX6_found_0 rfl (lv_at hl 0 rfl) ?_
  refine va_get (D := D) (ci := 6) (v := .int (nI (mr.2.2.2.2))) (C := RX6) (T := TX6) (N := 15) hx hb hts hinX6 hown hK hP 0 rfl rfl 7 (by decide) (hts (.fieldLink RX6 94 "TypoSuggesterModel" "results" "I") (by decide +kernel)) (fun _ h9 => h9) rfl dX6_found_1 ?_
  exact hret 4 ls dX6_found_4
abbrev rmX6_terms : Room := { frames := 0, cells := 0, slots := 0, locals := 0 }
set_option maxHeartbeats 4000000 in
set_option maxRecDepth 100000 in
theorem mX6_terms (l : Launch) (D : va_G) (b : Nat → Nat) (cs : Nat → ClassId) (mt : (Nat → Int32) × Nat) (ml : (Nat → Nat) × (Nat → Nat) × (Nat → Nat) × Nat × Nat) (mr : (Nat → Nat) × (Nat → Nat) × (Nat → Nat) × (Nat → Nat) × Nat) (mk : (Nat → Bool) × (Nat → Nat) × (Nat → Nat)) : Met l yX6_terms wsX6_terms rmX6_terms (wdP D vwCl (wM b cs mt ml mr mk) (tyX cs) [.ref (b 0)]) (rdQ (.int (nI (ml.2.2.2.1)))) 0 0 (fun _ => False) := by
  refine nz_metRi (by decide) rfl (Nat.le_of_ble_eq_true rfl) rfl ?_
  intro p e s m args below meth c Q hx hb hml hts hown hP hK hret ls hl
  have hl : lv_has ls 1 [(0, .ref (b 0))] := hl
  have hown : s.vm.findClass RX6 = some m.cls := hown
  have hinX6 : ∀ w ∈ u_ws RX6 TX6 15, w ∈ wsX6_terms := by decide +kernel
  refine lv_aload_n hx hb dX6_terms_0 rfl (lv_at hl 0 rfl) ?_
  refine va_get (D := D) (ci := 6) (v := .int (nI (ml.2.2.2.1))) (C := RX6) (T := TX6) (N := 15) hx hb hts hinX6 hown hK hP 0 rfl rfl 2 (by decide) (hts (.fieldLink RX6 46 "TypoSuggesterModel" "count" "I") (by decide +kernel)) (fun _ h9 => h9) rfl dX6_terms_1 ?_
  exact hret 4 ls dX6_terms_4
abbrev rmX6_letters : Room := { frames := 0, cells := 0, slots := 0, locals := 0 }
set_option maxHeartbeats 4000000 in
set_option maxRecDepth 100000 in
theorem mX6_letters (l : Launch) (D : va_G) (b : Nat → Nat) (cs : Nat → ClassId) (mt : (Nat → Int32) × Nat) (ml : (Nat → Nat) × (Nat → Nat) × (Nat → Nat) × Nat × Nat) (mr : (Nat → Nat) × (Nat → Nat) × (Nat → Nat) × (Nat → Nat) × Nat) (mk : (Nat → Bool) × (Nat → Nat) × (Nat → Nat)) : Met l yX6_letters wsX6_letters rmX6_letters (wdP D vwCl (wM b cs mt ml mr mk) (tyX cs) [.ref (b 0)]) (rdQ (.int (nI (ml.2.2.2.2)))) 0 0 (fun _ => False) := by
  refine nz_metRi (by decide) rfl (Nat.le_of_ble_eq_true rfl) rfl ?_
  intro p e s m args below meth c Q hx hb hml hts hown hP hK hret ls hl
  have hl : lv_has ls 1 [(0, .ref (b 0))] := hl
  have hown : s.vm.findClass RX6 = some m.cls := hown
  have hinX6 : ∀ w ∈ u_ws RX6 TX6 15, w ∈ wsX6_letters := by decide +kernel
  refine lv_aload_n hx hb dX6_letters_0 rfl (lv_at hl 0 rfl) ?_
  refine va_get (D := D) (ci := 6) (v := .int (nI (ml.2.2.2.2))) (C := RX6) (T := TX6) (N := 15) hx hb hts hinX6 hown hK hP 0 rfl rfl 3 (by decide) (hts (.fieldLink RX6 61 "TypoSuggesterModel" "letterCount" "I") (by decide +kernel)) (fun _ h9 => h9) rfl dX6_letters_1 ?_
  exact hret 4 ls dX6_letters_4
abbrev rmX6_letter : Room := { frames := 0, cells := 0, slots := 0, locals := 0 }
set_option maxHeartbeats 4000000 in
set_option maxRecDepth 100000 in
theorem mX6_letter (l : Launch) (D : va_G) (b : Nat → Nat) (cs : Nat → ClassId) (mt : (Nat → Int32) × Nat) (ml : (Nat → Nat) × (Nat → Nat) × (Nat → Nat) × Nat × Nat) (mr : (Nat → Nat) × (Nat → Nat) × (Nat → Nat) × (Nat → Nat) × Nat) (mk : (Nat → Bool) × (Nat → Nat) × (Nat → Nat)) (i : Int32) (j : Int32) (hR : MrB mr) : Met l yX6_letter wsX6_letter rmX6_letter (wdP D vwCl (wM b cs mt ml mr mk) (tyX cs) [.ref (b 0), .int (i), .int (j)]) (rdQ (.int (termF mr.2.2.2.2 mr.2.1 (fun x y => mr.1 (24 * x + y)) i j))) 0 0 (fun _ => False) := by
  obtain ⟨hR1, hR2, hR3, hR4⟩ := id hR
  refine nz_metRi (by decide) rfl (Nat.le_of_ble_eq_true rfl) rfl ?_
  intro p e s m args below meth c Q hx hb hml hts hown hP hK hret ls hl
  have hl : lv_has ls 3 [(0, .ref (b 0)), (1, .int (i)), (2, .int (j))] := hl
  have hown : s.vm.findClass RX6 = some m.cls := hown
  have hinX6 : ∀ w ∈ u_ws RX6 TX6 15, w ∈ wsX6_letter := by decide +kernel
  refine lv_iload_n hx hb dX6_letter_0 rfl (lv_at hl 1 rfl) ?_
  refine lv_if_lt (tgt := 40) hx hb dX6_letter_1 (by decide) (fun c_1 => ?_) (fun c_1 => ?_)
  · have hz := termF_n1 (n := mr.2.2.2.2) (Z := mr.2.1) (T := fun x y => mr.1 (24 * x + y)) (j := j) c_1
    refine lv_iconst (v := (-1)) hx hb dX6_letter_40 (by decide +kernel) ?_
    rw [hz] at hret
    exact hret 41 ls dX6_letter_41
  · obtain ⟨i1, hi1, rfl⟩ := nI_of c_1
    refine lv_iload_n hx hb dX6_letter_4 rfl (lv_at hl 1 rfl) ?_
    refine lv_aload_n hx hb dX6_letter_5 rfl (lv_at hl 0 rfl) ?_
    refine va_get (D := D) (ci := 6) (v := .int (nI (mr.2.2.2.2))) (C := RX6) (T := TX6) (N := 15) hx hb hts hinX6 hown hK hP 0 rfl rfl 7 (by decide) (hts (.fieldLink RX6 94 "TypoSuggesterModel" "results" "I") (by decide +kernel)) (fun _ h9 => h9) rfl dX6_letter_6 ?_
    refine nz_cge (a := i1) (b := mr.2.2.2.2) (tgt := 40) hx hb dX6_letter_9 (by decide) (by omega) (by omega) (fun c_9 => ?_) (fun c_9 => ?_)
    · have hz := termF_g1 (n := mr.2.2.2.2) (Z := mr.2.1) (T := fun x y => mr.1 (24 * x + y)) (j := j) hi1 c_9
      refine lv_iconst (v := (-1)) hx hb dX6_letter_40 (by decide +kernel) ?_
      rw [hz] at hret
      exact hret 41 ls dX6_letter_41
    · refine lv_iload_n hx hb dX6_letter_12 rfl (lv_at hl 2 rfl) ?_
      refine lv_if_lt (tgt := 40) hx hb dX6_letter_13 (by decide) (fun c_13 => ?_) (fun c_13 => ?_)
      · have hz := termF_n2 (n := mr.2.2.2.2) (Z := mr.2.1) (T := fun x y => mr.1 (24 * x + y)) (i := nI i1) c_13
        refine lv_iconst (v := (-1)) hx hb dX6_letter_40 (by decide +kernel) ?_
        rw [hz] at hret
        exact hret 41 ls dX6_letter_41
      · obtain ⟨j1, hj1, rfl⟩ := nI_of c_13
        refine lv_iload_n hx hb dX6_letter_16 rfl (lv_at hl 2 rfl) ?_
        refine lv_aload_n hx hb dX6_letter_17 rfl (lv_at hl 0 rfl) ?_
        refine va_get (D := D) (ci := 6) (v := .ref (b 6)) (C := RX6) (T := TX6) (N := 15) hx hb hts hinX6 hown hK hP 0 rfl rfl 9 (by decide) (hts (.fieldLink RX6 27 "TypoSuggesterModel" "resultSize" "[I") (by decide +kernel)) (fun _ h9 => h9) rfl dX6_letter_18 ?_
        refine lv_iload_n hx hb dX6_letter_21 rfl (lv_at hl 1 rfl) ?_
        refine nz_iald (f := mr.2.1) (k := i1) hx hb hK hP 6 1 rfl rfl (by omega) (by decide) dX6_letter_22 ?_
        refine nz_cge (a := j1) (b := mr.2.1 i1) (tgt := 40) hx hb dX6_letter_23 (by decide) (by omega) (by have := hR2 i1; omega) (fun c_23 => ?_) (fun c_23 => ?_)
        · have hz := termF_g2 (n := mr.2.2.2.2) (Z := mr.2.1) (T := fun x y => mr.1 (24 * x + y)) hi1 hj1 c_23
          refine lv_iconst (v := (-1)) hx hb dX6_letter_40 (by decide +kernel) ?_
          rw [hz] at hret
          exact hret 41 ls dX6_letter_41
        · have hz := termF_in (n := mr.2.2.2.2) (Z := mr.2.1) (T := fun x y => mr.1 (24 * x + y)) hi1 hj1 c_9 c_23
          have hr3 := hR2 i1
          refine lv_aload_n hx hb dX6_letter_26 rfl (lv_at hl 0 rfl) ?_
          refine va_get (D := D) (ci := 6) (v := .ref (b 5)) (C := RX6) (T := TX6) (N := 15) hx hb hts hinX6 hown hK hP 0 rfl rfl 8 (by decide) (hts (.fieldLink RX6 24 "TypoSuggesterModel" "resultLetters" "[B") (by decide +kernel)) (fun _ h9 => h9) rfl dX6_letter_27 ?_
          refine lv_bipush (v := nI 24) hx hb dX6_letter_30 (by decide +kernel) ?_
          refine lv_iload_n hx hb dX6_letter_32 rfl (lv_at hl 1 rfl) ?_
          refine nz_imul (a := 24) (b := i1) hx hb dX6_letter_33 ?_
          refine lv_iload_n hx hb dX6_letter_34 rfl (lv_at hl 2 rfl) ?_
          refine nz_iadd (a := 24 * i1) (b := j1) hx hb dX6_letter_35 ?_
          refine nz_bald (f := mr.1) (k := 24 * i1 + j1) hx hb hK hP 5 0 rfl rfl (by omega) (by decide) dX6_letter_36 ?_
          refine lv_goto (tgt := 41) hx hb dX6_letter_37 (by decide) ?_
          rw [hz] at hret
          exact hret 41 ls dX6_letter_41
abbrev rmX6_term : Room := { frames := 0, cells := 0, slots := 0, locals := 0 }
set_option maxHeartbeats 4000000 in
set_option maxRecDepth 100000 in
theorem mX6_term (l : Launch) (D : va_G) (b : Nat → Nat) (cs : Nat → ClassId) (mt : (Nat → Int32) × Nat) (ml : (Nat → Nat) × (Nat → Nat) × (Nat → Nat) × Nat × Nat) (mr : (Nat → Nat) × (Nat → Nat) × (Nat → Nat) × (Nat → Nat) × Nat) (mk : (Nat → Bool) × (Nat → Nat) × (Nat → Nat)) (i : Int32) (j : Int32) (hM : MlB ml) : Met l yX6_term wsX6_term rmX6_term (wdP D vwCl (wM b cs mt ml mr mk) (tyX cs) [.ref (b 0), .int (i), .int (j)]) (rdQ (.int (termF ml.2.2.2.1 ml.2.1 (fun x y => ml.1 (24 * x + y)) i j))) 0 0 (fun _ => False) := by
  obtain ⟨hM1, hM2, hM3, hM4, hM5⟩ := id hM
  refine nz_metRi (by decide) rfl (Nat.le_of_ble_eq_true rfl) rfl ?_
  intro p e s m args below meth c Q hx hb hml hts hown hP hK hret ls hl
  have hl : lv_has ls 3 [(0, .ref (b 0)), (1, .int (i)), (2, .int (j))] := hl
  have hown : s.vm.findClass RX6 = some m.cls := hown
  have hinX6 : ∀ w ∈ u_ws RX6 TX6 15, w ∈ wsX6_term := by decide +kernel
  refine lv_iload_n hx hb dX6_term_0 rfl (lv_at hl 1 rfl) ?_
  refine lv_if_lt (tgt := 40) hx hb dX6_term_1 (by decide) (fun c_1 => ?_) (fun c_1 => ?_)
  · have hz := termF_n1 (n := ml.2.2.2.1) (Z := ml.2.1) (T := fun x y => ml.1 (24 * x + y)) (j := j) c_1
    refine lv_iconst (v := (-1)) hx hb dX6_term_40 (by decide +kernel) ?_
    rw [hz] at hret
    exact hret 41 ls dX6_term_41
  · obtain ⟨i1, hi1, rfl⟩ := nI_of c_1
    refine lv_iload_n hx hb dX6_term_4 rfl (lv_at hl 1 rfl) ?_
    refine lv_aload_n hx hb dX6_term_5 rfl (lv_at hl 0 rfl) ?_
    refine va_get (D := D) (ci := 6) (v := .int (nI (ml.2.2.2.1))) (C := RX6) (T := TX6) (N := 15) hx hb hts hinX6 hown hK hP 0 rfl rfl 2 (by decide) (hts (.fieldLink RX6 46 "TypoSuggesterModel" "count" "I") (by decide +kernel)) (fun _ h9 => h9) rfl dX6_term_6 ?_
    refine nz_cge (a := i1) (b := ml.2.2.2.1) (tgt := 40) hx hb dX6_term_9 (by decide) (by omega) (by omega) (fun c_9 => ?_) (fun c_9 => ?_)
    · have hz := termF_g1 (n := ml.2.2.2.1) (Z := ml.2.1) (T := fun x y => ml.1 (24 * x + y)) (j := j) hi1 c_9
      refine lv_iconst (v := (-1)) hx hb dX6_term_40 (by decide +kernel) ?_
      rw [hz] at hret
      exact hret 41 ls dX6_term_41
    · refine lv_iload_n hx hb dX6_term_12 rfl (lv_at hl 2 rfl) ?_
      refine lv_if_lt (tgt := 40) hx hb dX6_term_13 (by decide) (fun c_13 => ?_) (fun c_13 => ?_)
      · have hz := termF_n2 (n := ml.2.2.2.1) (Z := ml.2.1) (T := fun x y => ml.1 (24 * x + y)) (i := nI i1) c_13
        refine lv_iconst (v := (-1)) hx hb dX6_term_40 (by decide +kernel) ?_
        rw [hz] at hret
        exact hret 41 ls dX6_term_41
      · obtain ⟨j1, hj1, rfl⟩ := nI_of c_13
        refine lv_iload_n hx hb dX6_term_16 rfl (lv_at hl 2 rfl) ?_
        refine lv_aload_n hx hb dX6_term_17 rfl (lv_at hl 0 rfl) ?_
        refine va_get (D := D) (ci := 6) (v := .ref (b 3)) (C := RX6) (T := TX6) (N := 15) hx hb hts hinX6 hown hK hP 0 rfl rfl 5 (by decide) (hts (.fieldLink RX6 16 "TypoSuggesterModel" "sizes" "[I") (by decide +kernel)) (fun _ h9 => h9) rfl dX6_term_18 ?_
        refine lv_iload_n hx hb dX6_term_21 rfl (lv_at hl 1 rfl) ?_
        refine nz_iald (f := ml.2.1) (k := i1) hx hb hK hP 3 1 rfl rfl (by omega) (by decide) dX6_term_22 ?_
        refine nz_cge (a := j1) (b := ml.2.1 i1) (tgt := 40) hx hb dX6_term_23 (by decide) (by omega) (by have := hM2 i1; omega) (fun c_23 => ?_) (fun c_23 => ?_)
        · have hz := termF_g2 (n := ml.2.2.2.1) (Z := ml.2.1) (T := fun x y => ml.1 (24 * x + y)) hi1 hj1 c_23
          refine lv_iconst (v := (-1)) hx hb dX6_term_40 (by decide +kernel) ?_
          rw [hz] at hret
          exact hret 41 ls dX6_term_41
        · have hz := termF_in (n := ml.2.2.2.1) (Z := ml.2.1) (T := fun x y => ml.1 (24 * x + y)) hi1 hj1 c_9 c_23
          have hr3 := hM2 i1
          refine lv_aload_n hx hb dX6_term_26 rfl (lv_at hl 0 rfl) ?_
          refine va_get (D := D) (ci := 6) (v := .ref (b 2)) (C := RX6) (T := TX6) (N := 15) hx hb hts hinX6 hown hK hP 0 rfl rfl 4 (by decide) (hts (.fieldLink RX6 13 "TypoSuggesterModel" "letters" "[B") (by decide +kernel)) (fun _ h9 => h9) rfl dX6_term_27 ?_
          refine lv_bipush (v := nI 24) hx hb dX6_term_30 (by decide +kernel) ?_
          refine lv_iload_n hx hb dX6_term_32 rfl (lv_at hl 1 rfl) ?_
          refine nz_imul (a := 24) (b := i1) hx hb dX6_term_33 ?_
          refine lv_iload_n hx hb dX6_term_34 rfl (lv_at hl 2 rfl) ?_
          refine nz_iadd (a := 24 * i1) (b := j1) hx hb dX6_term_35 ?_
          refine nz_bald (f := ml.1) (k := 24 * i1 + j1) hx hb hK hP 2 0 rfl rfl (by omega) (by decide) dX6_term_36 ?_
          refine lv_goto (tgt := 41) hx hb dX6_term_37 (by decide) ?_
          rw [hz] at hret
          exact hret 41 ls dX6_term_41
abbrev rmX6_of : Room := { frames := 0, cells := 0, slots := 0, locals := 0 }
set_option maxHeartbeats 4000000 in
set_option maxRecDepth 100000 in
theorem mX6_of (l : Launch) (D : va_G) (b : Nat → Nat) (cs : Nat → ClassId) (mt : (Nat → Int32) × Nat) (ml : (Nat → Nat) × (Nat → Nat) × (Nat → Nat) × Nat × Nat) (mr : (Nat → Nat) × (Nat → Nat) × (Nat → Nat) × (Nat → Nat) × Nat) (mk : (Nat → Bool) × (Nat → Nat) × (Nat → Nat)) (i : Int32) (y : Int32) (hR : MrB mr) : Met l yX6_of wsX6_of rmX6_of (wdP D vwCl (wM b cs mt ml mr mk) (tyX cs) [.ref (b 0), .int (i), .int (y)]) (rdQ (.long (ofL mr.2.2.2.2 mr.2.1 mr.2.2.1 mr.2.2.2.1 i y))) 0 0 (fun _ => False) := by
  obtain ⟨hR1, hR2, hR3, hR4⟩ := id hR
  refine nz_metRl (by decide) rfl (Nat.le_of_ble_eq_true rfl) ?_
  intro p e s m args below meth c Q hx hb hml hts hown hP hK hret ls hl
  have hl : lv_has ls 3 [(0, .ref (b 0)), (1, .int (i)), (2, .int (y))] := hl
  have hown : s.vm.findClass RX6 = some m.cls := hown
  have hinX6 : ∀ w ∈ u_ws RX6 TX6 15, w ∈ wsX6_of := by decide +kernel
  refine lv_iload_n hx hb dX6_of_0 rfl (lv_at hl 1 rfl) ?_
  refine lv_if_lt (tgt := 12) hx hb dX6_of_1 (by decide) (fun c_1 => ?_) (fun c_1 => ?_)
  · have hz : ofL mr.2.2.2.2 mr.2.1 mr.2.2.1 mr.2.2.2.1 i y = -1 := if_neg (fun z => z.1 c_1)
    refine lv_ldc2 (v := (-1)) hx hb hown (hts (.constantLong RX6 89 (-1)) (by decide +kernel)) dX6_of_12 ?_
    rw [hz] at hret
    exact hret 15 ls dX6_of_15
  · obtain ⟨i1, hi1, rfl⟩ := nI_of c_1
    refine lv_iload_n hx hb dX6_of_4 rfl (lv_at hl 1 rfl) ?_
    refine lv_aload_n hx hb dX6_of_5 rfl (lv_at hl 0 rfl) ?_
    refine va_get (D := D) (ci := 6) (v := .int (nI (mr.2.2.2.2))) (C := RX6) (T := TX6) (N := 15) hx hb hts hinX6 hown hK hP 0 rfl rfl 7 (by decide) (hts (.fieldLink RX6 94 "TypoSuggesterModel" "results" "I") (by decide +kernel)) (fun _ h9 => h9) rfl dX6_of_6 ?_
    refine nz_clt (a := i1) (b := mr.2.2.2.2) (tgt := 16) hx hb dX6_of_9 (by decide) (by omega) (by omega) (fun c_9 => ?_) (fun c_9 => ?_)
    · have hof : ofL mr.2.2.2.2 mr.2.1 mr.2.2.1 mr.2.2.2.1 (nI i1) y = (if y = 0 then lN (mr.2.1 i1) else if y = 1 then lN (mr.2.2.1 i1) else if y = 2 then lN (mr.2.2.2.1 i1) else -1) := by unfold ofL; rw [nI_clamp hi1, if_pos ⟨nI_pos hi1, c_9⟩]
      rw [hof] at hret
      refine lv_iload_n hx hb dX6_of_16 rfl (lv_at hl 2 rfl) ?_
      refine lv_if_ne (tgt := 30) hx hb dX6_of_17 (by decide) (fun c_17 => ?_) (fun c_17 => ?_)
      · refine lv_iload_n hx hb dX6_of_30 rfl (lv_at hl 2 rfl) ?_
        refine lv_iconst (v := nI 1) hx hb dX6_of_31 (by decide +kernel) ?_
        refine lv_icmp_ne (tgt := 44) hx hb dX6_of_32 (by decide) (fun c_32 => ?_) (fun c_32 => ?_)
        · have c_32 : ¬ y = 1 := c_32
          refine lv_iload_n hx hb dX6_of_44 rfl (lv_at hl 2 rfl) ?_
          refine lv_iconst (v := nI 2) hx hb dX6_of_45 (by decide +kernel) ?_
          refine lv_icmp_ne (tgt := 59) hx hb dX6_of_46 (by decide) (fun c_46 => ?_) (fun c_46 => ?_)
          · have c_46 : ¬ y = 2 := c_46
            refine lv_ldc2 (v := (-1)) hx hb hown (hts (.constantLong RX6 89 (-1)) (by decide +kernel)) dX6_of_59 ?_
            first | rw [if_pos c_17] at hret | rw [if_neg c_17, if_pos c_32] at hret | rw [if_neg c_17, if_neg c_32, if_pos c_46] at hret | rw [if_neg c_17, if_neg c_32, if_neg c_46] at hret
            exact hret 62 ls dX6_of_62
          · have c_46 : y = 2 := c_46
            refine lv_aload_n hx hb dX6_of_49 rfl (lv_at hl 0 rfl) ?_
            refine va_get (D := D) (ci := 6) (v := .ref (b 8)) (C := RX6) (T := TX6) (N := 15) hx hb hts hinX6 hown hK hP 0 rfl rfl 11 (by decide) (hts (.fieldLink RX6 33 "TypoSuggesterModel" "resultNear" "[I") (by decide +kernel)) (fun _ h9 => h9) rfl dX6_of_50 ?_
            refine lv_iload_n hx hb dX6_of_53 rfl (lv_at hl 1 rfl) ?_
            refine nz_iald (f := mr.2.2.2.1) (k := i1) hx hb hK hP 8 1 rfl rfl (by omega) (by decide) dX6_of_54 ?_
            refine nz_i2l hx hb dX6_of_55 (by have := hR4 i1; omega) ?_
            refine lv_goto (tgt := 62) hx hb dX6_of_56 (by decide) ?_
            first | rw [if_pos c_17] at hret | rw [if_neg c_17, if_pos c_32] at hret | rw [if_neg c_17, if_neg c_32, if_pos c_46] at hret | rw [if_neg c_17, if_neg c_32, if_neg c_46] at hret
            exact hret 62 ls dX6_of_62
        · have c_32 : y = 1 := c_32
          refine lv_aload_n hx hb dX6_of_35 rfl (lv_at hl 0 rfl) ?_
          refine va_get (D := D) (ci := 6) (v := .ref (b 7)) (C := RX6) (T := TX6) (N := 15) hx hb hts hinX6 hown hK hP 0 rfl rfl 10 (by decide) (hts (.fieldLink RX6 30 "TypoSuggesterModel" "resultWeight" "[J") (by decide +kernel)) (fun _ h9 => h9) rfl dX6_of_36 ?_
          refine lv_iload_n hx hb dX6_of_39 rfl (lv_at hl 1 rfl) ?_
          refine nz_lald (f := mr.2.2.1) (k := i1) hx hb hK hP 7 2 rfl rfl (by omega) (by decide) dX6_of_40 ?_
          refine lv_goto (tgt := 62) hx hb dX6_of_41 (by decide) ?_
          first | rw [if_pos c_17] at hret | rw [if_neg c_17, if_pos c_32] at hret | rw [if_neg c_17, if_neg c_32, if_pos c_46] at hret | rw [if_neg c_17, if_neg c_32, if_neg c_46] at hret
          exact hret 62 ls dX6_of_62
      · refine lv_aload_n hx hb dX6_of_20 rfl (lv_at hl 0 rfl) ?_
        refine va_get (D := D) (ci := 6) (v := .ref (b 6)) (C := RX6) (T := TX6) (N := 15) hx hb hts hinX6 hown hK hP 0 rfl rfl 9 (by decide) (hts (.fieldLink RX6 27 "TypoSuggesterModel" "resultSize" "[I") (by decide +kernel)) (fun _ h9 => h9) rfl dX6_of_21 ?_
        refine lv_iload_n hx hb dX6_of_24 rfl (lv_at hl 1 rfl) ?_
        refine nz_iald (f := mr.2.1) (k := i1) hx hb hK hP 6 1 rfl rfl (by omega) (by decide) dX6_of_25 ?_
        refine nz_i2l hx hb dX6_of_26 (by have := hR2 i1; omega) ?_
        refine lv_goto (tgt := 62) hx hb dX6_of_27 (by decide) ?_
        first | rw [if_pos c_17] at hret | rw [if_neg c_17, if_pos c_32] at hret | rw [if_neg c_17, if_neg c_32, if_pos c_46] at hret | rw [if_neg c_17, if_neg c_32, if_neg c_46] at hret
        exact hret 62 ls dX6_of_62
    · have hz : ofL mr.2.2.2.2 mr.2.1 mr.2.2.1 mr.2.2.2.1 (nI i1) y = -1 := if_neg (fun z => by have := z.2; rw [nI_clamp hi1] at this; omega)
      refine lv_ldc2 (v := (-1)) hx hb hown (hts (.constantLong RX6 89 (-1)) (by decide +kernel)) dX6_of_12 ?_
      rw [hz] at hret
      exact hret 15 ls dX6_of_15
abbrev rmX6_prefixes : Room := { frames := 0, cells := 0, slots := 0, locals := 0 }
set_option maxHeartbeats 4000000 in
set_option maxRecDepth 100000 in
theorem mX6_prefixes (l : Launch) (D : va_G) (b : Nat → Nat) (cs : Nat → ClassId) (mt : (Nat → Int32) × Nat) (ml : (Nat → Nat) × (Nat → Nat) × (Nat → Nat) × Nat × Nat) (mr : (Nat → Nat) × (Nat → Nat) × (Nat → Nat) × (Nat → Nat) × Nat) (mk : (Nat → Bool) × (Nat → Nat) × (Nat → Nat)) (sh : Nat → Nat) (hM : MlB ml) (hsh : ∀ i, i + 1 < ml.2.2.2.1 → IsLcp (TM ml i) (TM ml (i + 1)) (min (ml.2.1 i) (ml.2.1 (i + 1))) (sh i)) : Met l yX6_prefixes wsX6_prefixes rmX6_prefixes (wdP D vwCl (wM b cs mt ml mr mk) (tyX cs) [.ref (b 0)]) (rdQ (.int (nI ((if ml.2.2.2.1 = 0 then 0 else 1) + sumF (fun t => ml.2.1 t - (if t = 0 then 0 else sh (t - 1))) ml.2.2.2.1)))) 0 0 (fun _ => False) := by
  obtain ⟨hM1, hM2, hM3, hM4, hM5⟩ := id hM
  refine nz_metRi (by decide) rfl (Nat.le_of_ble_eq_true rfl) rfl ?_
  intro p e s m args below meth c Q hx hb hml hts hown hP hK hret ls hl
  have hl : lv_has ls 4 [(0, .ref (b 0))] := hl
  have hown : s.vm.findClass RX6 = some m.cls := hown
  have hinX6 : ∀ w ∈ u_ws RX6 TX6 15, w ∈ wsX6_prefixes := by decide +kernel
  refine lv_aload_n hx hb dX6_prefixes_0 rfl (lv_at hl 0 rfl) ?_
  refine va_get (D := D) (ci := 6) (v := .int (nI (ml.2.2.2.1))) (C := RX6) (T := TX6) (N := 15) hx hb hts hinX6 hown hK hP 0 rfl rfl 2 (by decide) (hts (.fieldLink RX6 46 "TypoSuggesterModel" "count" "I") (by decide +kernel)) (fun _ h9 => h9) rfl dX6_prefixes_1 ?_
  refine nz_ifne (a := ml.2.2.2.1) (tgt := 11) hx hb dX6_prefixes_4 (by decide) (by omega) (fun c_4 => ?_) (fun c_4 => ?_)
  · refine lv_iconst (v := nI 1) hx hb dX6_prefixes_11 (by decide +kernel) ?_
    refine lv_istore_n (lv' := [(1, .int (nI (1))), (0, .ref (b 0))]) hx hb dX6_prefixes_12 rfl hl (by decide) rfl (fun ls hl => ?_)
    refine lv_iconst (v := nI 0) hx hb dX6_prefixes_13 (by decide +kernel) ?_
    refine lv_istore_n (lv' := [(2, .int (nI (0))), (1, .int (nI (1))), (0, .ref (b 0))]) hx hb dX6_prefixes_14 rfl hl (by decide) rfl (fun ls hl => ?_)
    have e_1 : (nI (1)) = (nI ((if ml.2.2.2.1 = 0 then 0 else 1) + sumF (fun t => ml.2.1 t - (if t = 0 then 0 else sh (t - 1))) 0)) := by rw [if_neg (by omega)]; rfl
    have hl : lv_has ls 4 [(2, .int (nI (0))), (1, .int (nI ((if ml.2.2.2.1 = 0 then 0 else 1) + sumF (fun t => ml.2.1 t - (if t = 0 then 0 else sh (t - 1))) 0))), (0, .ref (b 0))] := by rw [← e_1]; exact hl
    have loop : ∀ (fuel : Nat) (k : Nat), (k ≤ ml.2.2.2.1) → ml.2.2.2.1 - k < fuel → ∀ ls : Array Slot, lv_has ls 4 [(0, .ref (b 0)), (1, .int (nI ((if ml.2.2.2.1 = 0 then 0 else 1) + sumF (fun t => ml.2.1 t - (if t = 0 then 0 else sh (t - 1))) k))), (2, .int (nI (k)))] → W p l e rmX6_prefixes s m args below meth c s.heap [] 0 0 Q (F0 m 15 ls []) := by
      intro fuel
      induction fuel with
      | zero => intro k hk hf; exact absurd hf (Nat.not_lt_zero _)
      | succ fuel ih =>
        intro k hk hf ls hl
        have hz1 := hM2 k
        have hz2 := hM2 (k - 1)
        refine lv_iload_n hx hb dX6_prefixes_15 rfl (lv_at hl 2 rfl) ?_
        refine lv_aload_n hx hb dX6_prefixes_16 rfl (lv_at hl 0 rfl) ?_
        refine va_get (D := D) (ci := 6) (v := .int (nI (ml.2.2.2.1))) (C := RX6) (T := TX6) (N := 15) hx hb hts hinX6 hown hK hP 0 rfl rfl 2 (by decide) (hts (.fieldLink RX6 46 "TypoSuggesterModel" "count" "I") (by decide +kernel)) (fun _ h9 => h9) rfl dX6_prefixes_17 ?_
        refine nz_cge (a := k) (b := ml.2.2.2.1) (tgt := 101) hx hb dX6_prefixes_20 (by decide) (by omega) (by omega) (fun c_20 => ?_) (fun c_20 => ?_)
        · refine lv_iload_n hx hb dX6_prefixes_101 rfl (lv_at hl 1 rfl) ?_
          rw [show k = ml.2.2.2.1 by omega]
          exact hret 102 ls dX6_prefixes_102
        · refine lv_iconst (v := nI 0) hx hb dX6_prefixes_23 (by decide +kernel) ?_
          refine lv_istore_n (lv' := [(3, .int (nI (0))), (0, .ref (b 0)), (1, .int (nI ((if ml.2.2.2.1 = 0 then 0 else 1) + sumF (fun t => ml.2.1 t - (if t = 0 then 0 else sh (t - 1))) k))), (2, .int (nI (k)))]) hx hb dX6_prefixes_24 rfl hl (by decide) rfl (fun ls hl => ?_)
          obtain ⟨r, hr0, hr⟩ : ∃ r, r = (if k = 0 then 0 else sh (k - 1)) ∧ (0 < k → IsLcp (TM ml (k - 1)) (TM ml k) (min (ml.2.1 (k - 1)) (ml.2.1 k)) r) := ⟨_, rfl, fun h => by rw [if_neg (by omega)]; have h9 := hsh (k - 1) (by omega); rw [show k - 1 + 1 = k by omega] at h9; exact h9⟩
          have hrz : k = 0 → r = 0 := fun h => by rw [hr0, if_pos h]
          have hrk : r ≤ ml.2.1 k := (Nat.eq_zero_or_pos k).elim (fun h => by rw [hrz h]; exact Nat.zero_le _) (fun h => by have := (hr h).1; omega)
          have join : ∀ ls : Array Slot, lv_has ls 4 [(0, .ref (b 0)), (1, .int (nI ((if ml.2.2.2.1 = 0 then 0 else 1) + sumF (fun t => ml.2.1 t - (if t = 0 then 0 else sh (t - 1))) k))), (2, .int (nI (k))), (3, .int (nI (r)))] → W p l e rmX6_prefixes s m args below meth c s.heap [] 0 0 Q (F0 m 84 ls []) := by
            intro  ls hl
            refine lv_iload_n hx hb dX6_prefixes_84 rfl (lv_at hl 1 rfl) ?_
            refine lv_aload_n hx hb dX6_prefixes_85 rfl (lv_at hl 0 rfl) ?_
            refine va_get (D := D) (ci := 6) (v := .ref (b 3)) (C := RX6) (T := TX6) (N := 15) hx hb hts hinX6 hown hK hP 0 rfl rfl 5 (by decide) (hts (.fieldLink RX6 16 "TypoSuggesterModel" "sizes" "[I") (by decide +kernel)) (fun _ h9 => h9) rfl dX6_prefixes_86 ?_
            refine lv_iload_n hx hb dX6_prefixes_89 rfl (lv_at hl 2 rfl) ?_
            refine nz_iald (f := ml.2.1) (k := k) hx hb hK hP 3 1 rfl rfl (by omega) (by decide) dX6_prefixes_90 ?_
            refine lv_iload_n hx hb dX6_prefixes_91 rfl (lv_at hl 3 rfl) ?_
            refine nz_isub (a := ml.2.1 k) (b := r) hx hb dX6_prefixes_92 (by omega) ?_
            refine nz_iadd (a := (if ml.2.2.2.1 = 0 then 0 else 1) + sumF (fun t => ml.2.1 t - (if t = 0 then 0 else sh (t - 1))) k) (b := (ml.2.1 k) - r) hx hb dX6_prefixes_93 ?_
            refine nz_top (y := nI ((if ml.2.2.2.1 = 0 then 0 else 1) + sumF (fun t => ml.2.1 t - (if t = 0 then 0 else sh (t - 1))) k + ((ml.2.1 k) - r))) (by rfl) ?_
            refine lv_istore_n (lv' := [(1, .int (nI ((if ml.2.2.2.1 = 0 then 0 else 1) + sumF (fun t => ml.2.1 t - (if t = 0 then 0 else sh (t - 1))) k + ((ml.2.1 k) - r)))), (0, .ref (b 0)), (2, .int (nI (k))), (3, .int (nI (r)))]) hx hb dX6_prefixes_94 rfl hl (by decide) rfl (fun ls hl => ?_)
            have e_2 : (nI ((if ml.2.2.2.1 = 0 then 0 else 1) + sumF (fun t => ml.2.1 t - (if t = 0 then 0 else sh (t - 1))) k + ((ml.2.1 k) - r))) = (nI ((if ml.2.2.2.1 = 0 then 0 else 1) + sumF (fun t => ml.2.1 t - (if t = 0 then 0 else sh (t - 1))) (k + 1))) := by rw [hr0]; show _ = nI ((if ml.2.2.2.1 = 0 then 0 else 1) + (sumF (fun t => ml.2.1 t - (if t = 0 then 0 else sh (t - 1))) k + (ml.2.1 k - (if k = 0 then 0 else sh (k - 1))))); rw [Nat.add_assoc]
            have hl : lv_has ls 4 [(1, .int (nI ((if ml.2.2.2.1 = 0 then 0 else 1) + sumF (fun t => ml.2.1 t - (if t = 0 then 0 else sh (t - 1))) (k + 1)))), (0, .ref (b 0)), (2, .int (nI (k))), (3, .int (nI (r)))] := by rw [← e_2]; exact hl
            refine lv_iinc (v := nI (k + 1)) (lv' := [(2, .int (nI (k + 1))), (1, .int (nI ((if ml.2.2.2.1 = 0 then 0 else 1) + sumF (fun t => ml.2.1 t - (if t = 0 then 0 else sh (t - 1))) (k + 1)))), (0, .ref (b 0)), (3, .int (nI (r)))]) hx hb dX6_prefixes_95 hl (k := 2) rfl (nz_inc1 _) (by decide) rfl (fun ls hl => ?_)
            refine lv_goto (tgt := 15) hx hb dX6_prefixes_98 (by decide) ?_
            exact ih (k + 1) (by omega) (by omega) ls (lv_sub hl [2, 1, 0] rfl)
          have loop2 : ∀ (fuel : Nat) (q : Nat), (q ≤ r) → r - q < fuel → ∀ ls : Array Slot, lv_has ls 4 [(0, .ref (b 0)), (1, .int (nI ((if ml.2.2.2.1 = 0 then 0 else 1) + sumF (fun t => ml.2.1 t - (if t = 0 then 0 else sh (t - 1))) k))), (2, .int (nI (k))), (3, .int (nI (q)))] → W p l e rmX6_prefixes s m args below meth c s.heap [] 0 0 Q (F0 m 25 ls []) := by
            intro fuel
            induction fuel with
            | zero => intro q hq hf; exact absurd hf (Nat.not_lt_zero _)
            | succ fuel ih2 =>
              intro q hq hf ls hl
              refine lv_iload_n hx hb dX6_prefixes_25 rfl (lv_at hl 2 rfl) ?_
              refine nz_ifle (a := k) (tgt := 84) hx hb dX6_prefixes_26 (by decide) (by omega) (fun c_26 => ?_) (fun c_26 => ?_)
              · have hqr : q = r := by have := hrz c_26; omega
                subst hqr
                exact join  ls (lv_sub hl [0, 1, 2, 3] rfl)
              · have hr1 := (hr c_26).1
                have hr2 : ∀ j, j < r → ml.1 (24 * (k - 1) + j) = ml.1 (24 * k + j) := (hr c_26).2.1
                have hr3 : r < min (ml.2.1 (k - 1)) (ml.2.1 k) → ml.1 (24 * (k - 1) + r) ≠ ml.1 (24 * k + r) := (hr c_26).2.2
                refine lv_iload_n hx hb dX6_prefixes_29 rfl (lv_at hl 3 rfl) ?_
                refine lv_aload_n hx hb dX6_prefixes_30 rfl (lv_at hl 0 rfl) ?_
                refine va_get (D := D) (ci := 6) (v := .ref (b 3)) (C := RX6) (T := TX6) (N := 15) hx hb hts hinX6 hown hK hP 0 rfl rfl 5 (by decide) (hts (.fieldLink RX6 16 "TypoSuggesterModel" "sizes" "[I") (by decide +kernel)) (fun _ h9 => h9) rfl dX6_prefixes_31 ?_
                refine lv_iload_n hx hb dX6_prefixes_34 rfl (lv_at hl 2 rfl) ?_
                refine lv_iconst (v := nI 1) hx hb dX6_prefixes_35 (by decide +kernel) ?_
                refine nz_isub (a := k) (b := 1) hx hb dX6_prefixes_36 (by omega) ?_
                refine nz_iald (f := ml.2.1) (k := k - 1) hx hb hK hP 3 1 rfl rfl (by omega) (by decide) dX6_prefixes_37 ?_
                refine nz_cge (a := q) (b := ml.2.1 (k - 1)) (tgt := 84) hx hb dX6_prefixes_38 (by decide) (by omega) (by omega) (fun c_38 => ?_) (fun c_38 => ?_)
                · have hqr : q = r := by omega
                  subst hqr
                  exact join  ls (lv_sub hl [0, 1, 2, 3] rfl)
                · refine lv_iload_n hx hb dX6_prefixes_41 rfl (lv_at hl 3 rfl) ?_
                  refine lv_aload_n hx hb dX6_prefixes_42 rfl (lv_at hl 0 rfl) ?_
                  refine va_get (D := D) (ci := 6) (v := .ref (b 3)) (C := RX6) (T := TX6) (N := 15) hx hb hts hinX6 hown hK hP 0 rfl rfl 5 (by decide) (hts (.fieldLink RX6 16 "TypoSuggesterModel" "sizes" "[I") (by decide +kernel)) (fun _ h9 => h9) rfl dX6_prefixes_43 ?_
                  refine lv_iload_n hx hb dX6_prefixes_46 rfl (lv_at hl 2 rfl) ?_
                  refine nz_iald (f := ml.2.1) (k := k) hx hb hK hP 3 1 rfl rfl (by omega) (by decide) dX6_prefixes_47 ?_
                  refine nz_cge (a := q) (b := ml.2.1 k) (tgt := 84) hx hb dX6_prefixes_48 (by decide) (by omega) (by omega) (fun c_48 => ?_) (fun c_48 => ?_)
                  · have hqr : q = r := by omega
                    subst hqr
                    exact join  ls (lv_sub hl [0, 1, 2, 3] rfl)
                  · refine lv_aload_n hx hb dX6_prefixes_51 rfl (lv_at hl 0 rfl) ?_
                    refine va_get (D := D) (ci := 6) (v := .ref (b 2)) (C := RX6) (T := TX6) (N := 15) hx hb hts hinX6 hown hK hP 0 rfl rfl 4 (by decide) (hts (.fieldLink RX6 13 "TypoSuggesterModel" "letters" "[B") (by decide +kernel)) (fun _ h9 => h9) rfl dX6_prefixes_52 ?_
                    refine lv_bipush (v := nI 24) hx hb dX6_prefixes_55 (by decide +kernel) ?_
                    refine lv_iload_n hx hb dX6_prefixes_57 rfl (lv_at hl 2 rfl) ?_
                    refine lv_iconst (v := nI 1) hx hb dX6_prefixes_58 (by decide +kernel) ?_
                    refine nz_isub (a := k) (b := 1) hx hb dX6_prefixes_59 (by omega) ?_
                    refine nz_imul (a := 24) (b := k - 1) hx hb dX6_prefixes_60 ?_
                    refine lv_iload_n hx hb dX6_prefixes_61 rfl (lv_at hl 3 rfl) ?_
                    refine nz_iadd (a := 24 * (k - 1)) (b := q) hx hb dX6_prefixes_62 ?_
                    refine nz_bald (f := ml.1) (k := 24 * (k - 1) + q) hx hb hK hP 2 0 rfl rfl (by omega) (by decide) dX6_prefixes_63 ?_
                    refine lv_aload_n hx hb dX6_prefixes_64 rfl (lv_at hl 0 rfl) ?_
                    refine va_get (D := D) (ci := 6) (v := .ref (b 2)) (C := RX6) (T := TX6) (N := 15) hx hb hts hinX6 hown hK hP 0 rfl rfl 4 (by decide) (hts (.fieldLink RX6 13 "TypoSuggesterModel" "letters" "[B") (by decide +kernel)) (fun _ h9 => h9) rfl dX6_prefixes_65 ?_
                    refine lv_bipush (v := nI 24) hx hb dX6_prefixes_68 (by decide +kernel) ?_
                    refine lv_iload_n hx hb dX6_prefixes_70 rfl (lv_at hl 2 rfl) ?_
                    refine nz_imul (a := 24) (b := k) hx hb dX6_prefixes_71 ?_
                    refine lv_iload_n hx hb dX6_prefixes_72 rfl (lv_at hl 3 rfl) ?_
                    refine nz_iadd (a := 24 * k) (b := q) hx hb dX6_prefixes_73 ?_
                    refine nz_bald (f := ml.1) (k := 24 * k + q) hx hb hK hP 2 0 rfl rfl (by omega) (by decide) dX6_prefixes_74 ?_
                    refine nz_cne (a := ml.1 (24 * (k - 1) + q)) (b := ml.1 (24 * k + q)) (tgt := 84) hx hb dX6_prefixes_75 (by decide) (by have := hM3 (24 * (k - 1) + q); omega) (by have := hM3 (24 * k + q); omega) (fun c_75 => ?_) (fun c_75 => ?_)
                    · have hqr : q = r := by
                        rcases Nat.lt_or_ge q r with h | h
                        · exact absurd (hr2 q h) c_75
                        · omega
                      subst hqr
                      exact join  ls (lv_sub hl [0, 1, 2, 3] rfl)
                    · have hqr : q < r := by
                        rcases Nat.lt_or_ge q r with h | h
                        · exact h
                        · have h2 : q = r := by omega
                          rw [h2] at c_38 c_48 c_75
                          exact absurd c_75 (hr3 (by omega))
                      refine lv_iinc (v := nI (q + 1)) (lv' := [(3, .int (nI (q + 1))), (0, .ref (b 0)), (1, .int (nI ((if ml.2.2.2.1 = 0 then 0 else 1) + sumF (fun t => ml.2.1 t - (if t = 0 then 0 else sh (t - 1))) k))), (2, .int (nI (k)))]) hx hb dX6_prefixes_78 hl (k := 3) rfl (nz_inc1 _) (by decide) rfl (fun ls hl => ?_)
                      refine lv_goto (tgt := 25) hx hb dX6_prefixes_81 (by decide) ?_
                      exact ih2 (q + 1) (by omega) (by omega) ls (lv_sub hl [1, 2, 3, 0] rfl)
          exact loop2 (r - 0 + 1) 0 (Nat.zero_le _) (Nat.lt_succ_self _) ls (lv_sub hl [1, 2, 3, 0] rfl)
    exact loop (ml.2.2.2.1 - 0 + 1) 0 (Nat.zero_le _) (Nat.lt_succ_self _) ls (lv_sub hl [2, 1, 0] rfl)
  · refine lv_iconst (v := nI 0) hx hb dX6_prefixes_7 (by decide +kernel) ?_
    refine lv_goto (tgt := 12) hx hb dX6_prefixes_8 (by decide) ?_
    refine lv_istore_n (lv' := [(1, .int (nI (0))), (0, .ref (b 0))]) hx hb dX6_prefixes_12 rfl hl (by decide) rfl (fun ls hl => ?_)
    refine lv_iconst (v := nI 0) hx hb dX6_prefixes_13 (by decide +kernel) ?_
    refine lv_istore_n (lv' := [(2, .int (nI (0))), (1, .int (nI (0))), (0, .ref (b 0))]) hx hb dX6_prefixes_14 rfl hl (by decide) rfl (fun ls hl => ?_)
    have e_3 : (nI (0)) = (nI ((if ml.2.2.2.1 = 0 then 0 else 1) + sumF (fun t => ml.2.1 t - (if t = 0 then 0 else sh (t - 1))) 0)) := by rw [if_pos c_4]; rfl
    have hl : lv_has ls 4 [(2, .int (nI (0))), (1, .int (nI ((if ml.2.2.2.1 = 0 then 0 else 1) + sumF (fun t => ml.2.1 t - (if t = 0 then 0 else sh (t - 1))) 0))), (0, .ref (b 0))] := by rw [← e_3]; exact hl
    have loop : ∀ (fuel : Nat) (k : Nat), (k ≤ ml.2.2.2.1) → ml.2.2.2.1 - k < fuel → ∀ ls : Array Slot, lv_has ls 4 [(0, .ref (b 0)), (1, .int (nI ((if ml.2.2.2.1 = 0 then 0 else 1) + sumF (fun t => ml.2.1 t - (if t = 0 then 0 else sh (t - 1))) k))), (2, .int (nI (k)))] → W p l e rmX6_prefixes s m args below meth c s.heap [] 0 0 Q (F0 m 15 ls []) := by
      intro fuel
      induction fuel with
      | zero => intro k hk hf; exact absurd hf (Nat.not_lt_zero _)
      | succ fuel ih =>
        intro k hk hf ls hl
        have hz1 := hM2 k
        have hz2 := hM2 (k - 1)
        refine lv_iload_n hx hb dX6_prefixes_15 rfl (lv_at hl 2 rfl) ?_
        refine lv_aload_n hx hb dX6_prefixes_16 rfl (lv_at hl 0 rfl) ?_
        refine va_get (D := D) (ci := 6) (v := .int (nI (ml.2.2.2.1))) (C := RX6) (T := TX6) (N := 15) hx hb hts hinX6 hown hK hP 0 rfl rfl 2 (by decide) (hts (.fieldLink RX6 46 "TypoSuggesterModel" "count" "I") (by decide +kernel)) (fun _ h9 => h9) rfl dX6_prefixes_17 ?_
        refine nz_cge (a := k) (b := ml.2.2.2.1) (tgt := 101) hx hb dX6_prefixes_20 (by decide) (by omega) (by omega) (fun c_20 => ?_) (fun c_20 => ?_)
        · refine lv_iload_n hx hb dX6_prefixes_101 rfl (lv_at hl 1 rfl) ?_
          rw [show k = ml.2.2.2.1 by omega]
          exact hret 102 ls dX6_prefixes_102
        · refine lv_iconst (v := nI 0) hx hb dX6_prefixes_23 (by decide +kernel) ?_
          refine lv_istore_n (lv' := [(3, .int (nI (0))), (0, .ref (b 0)), (1, .int (nI ((if ml.2.2.2.1 = 0 then 0 else 1) + sumF (fun t => ml.2.1 t - (if t = 0 then 0 else sh (t - 1))) k))), (2, .int (nI (k)))]) hx hb dX6_prefixes_24 rfl hl (by decide) rfl (fun ls hl => ?_)
          obtain ⟨r, hr0, hr⟩ : ∃ r, r = (if k = 0 then 0 else sh (k - 1)) ∧ (0 < k → IsLcp (TM ml (k - 1)) (TM ml k) (min (ml.2.1 (k - 1)) (ml.2.1 k)) r) := ⟨_, rfl, fun h => by rw [if_neg (by omega)]; have h9 := hsh (k - 1) (by omega); rw [show k - 1 + 1 = k by omega] at h9; exact h9⟩
          have hrz : k = 0 → r = 0 := fun h => by rw [hr0, if_pos h]
          have hrk : r ≤ ml.2.1 k := (Nat.eq_zero_or_pos k).elim (fun h => by rw [hrz h]; exact Nat.zero_le _) (fun h => by have := (hr h).1; omega)
          have join : ∀ ls : Array Slot, lv_has ls 4 [(0, .ref (b 0)), (1, .int (nI ((if ml.2.2.2.1 = 0 then 0 else 1) + sumF (fun t => ml.2.1 t - (if t = 0 then 0 else sh (t - 1))) k))), (2, .int (nI (k))), (3, .int (nI (r)))] → W p l e rmX6_prefixes s m args below meth c s.heap [] 0 0 Q (F0 m 84 ls []) := by
            intro  ls hl
            refine lv_iload_n hx hb dX6_prefixes_84 rfl (lv_at hl 1 rfl) ?_
            refine lv_aload_n hx hb dX6_prefixes_85 rfl (lv_at hl 0 rfl) ?_
            refine va_get (D := D) (ci := 6) (v := .ref (b 3)) (C := RX6) (T := TX6) (N := 15) hx hb hts hinX6 hown hK hP 0 rfl rfl 5 (by decide) (hts (.fieldLink RX6 16 "TypoSuggesterModel" "sizes" "[I") (by decide +kernel)) (fun _ h9 => h9) rfl dX6_prefixes_86 ?_
            refine lv_iload_n hx hb dX6_prefixes_89 rfl (lv_at hl 2 rfl) ?_
            refine nz_iald (f := ml.2.1) (k := k) hx hb hK hP 3 1 rfl rfl (by omega) (by decide) dX6_prefixes_90 ?_
            refine lv_iload_n hx hb dX6_prefixes_91 rfl (lv_at hl 3 rfl) ?_
            refine nz_isub (a := ml.2.1 k) (b := r) hx hb dX6_prefixes_92 (by omega) ?_
            refine nz_iadd (a := (if ml.2.2.2.1 = 0 then 0 else 1) + sumF (fun t => ml.2.1 t - (if t = 0 then 0 else sh (t - 1))) k) (b := (ml.2.1 k) - r) hx hb dX6_prefixes_93 ?_
            refine nz_top (y := nI ((if ml.2.2.2.1 = 0 then 0 else 1) + sumF (fun t => ml.2.1 t - (if t = 0 then 0 else sh (t - 1))) k + ((ml.2.1 k) - r))) (by rfl) ?_
            refine lv_istore_n (lv' := [(1, .int (nI ((if ml.2.2.2.1 = 0 then 0 else 1) + sumF (fun t => ml.2.1 t - (if t = 0 then 0 else sh (t - 1))) k + ((ml.2.1 k) - r)))), (0, .ref (b 0)), (2, .int (nI (k))), (3, .int (nI (r)))]) hx hb dX6_prefixes_94 rfl hl (by decide) rfl (fun ls hl => ?_)
            have e_4 : (nI ((if ml.2.2.2.1 = 0 then 0 else 1) + sumF (fun t => ml.2.1 t - (if t = 0 then 0 else sh (t - 1))) k + ((ml.2.1 k) - r))) = (nI ((if ml.2.2.2.1 = 0 then 0 else 1) + sumF (fun t => ml.2.1 t - (if t = 0 then 0 else sh (t - 1))) (k + 1))) := by rw [hr0]; show _ = nI ((if ml.2.2.2.1 = 0 then 0 else 1) + (sumF (fun t => ml.2.1 t - (if t = 0 then 0 else sh (t - 1))) k + (ml.2.1 k - (if k = 0 then 0 else sh (k - 1))))); rw [Nat.add_assoc]
            have hl : lv_has ls 4 [(1, .int (nI ((if ml.2.2.2.1 = 0 then 0 else 1) + sumF (fun t => ml.2.1 t - (if t = 0 then 0 else sh (t - 1))) (k + 1)))), (0, .ref (b 0)), (2, .int (nI (k))), (3, .int (nI (r)))] := by rw [← e_4]; exact hl
            refine lv_iinc (v := nI (k + 1)) (lv' := [(2, .int (nI (k + 1))), (1, .int (nI ((if ml.2.2.2.1 = 0 then 0 else 1) + sumF (fun t => ml.2.1 t - (if t = 0 then 0 else sh (t - 1))) (k + 1)))), (0, .ref (b 0)), (3, .int (nI (r)))]) hx hb dX6_prefixes_95 hl (k := 2) rfl (nz_inc1 _) (by decide) rfl (fun ls hl => ?_)
            refine lv_goto (tgt := 15) hx hb dX6_prefixes_98 (by decide) ?_
            exact ih (k + 1) (by omega) (by omega) ls (lv_sub hl [2, 1, 0] rfl)
          have loop2 : ∀ (fuel : Nat) (q : Nat), (q ≤ r) → r - q < fuel → ∀ ls : Array Slot, lv_has ls 4 [(0, .ref (b 0)), (1, .int (nI ((if ml.2.2.2.1 = 0 then 0 else 1) + sumF (fun t => ml.2.1 t - (if t = 0 then 0 else sh (t - 1))) k))), (2, .int (nI (k))), (3, .int (nI (q)))] → W p l e rmX6_prefixes s m args below meth c s.heap [] 0 0 Q (F0 m 25 ls []) := by
            intro fuel
            induction fuel with
            | zero => intro q hq hf; exact absurd hf (Nat.not_lt_zero _)
            | succ fuel ih2 =>
              intro q hq hf ls hl
              refine lv_iload_n hx hb dX6_prefixes_25 rfl (lv_at hl 2 rfl) ?_
              refine nz_ifle (a := k) (tgt := 84) hx hb dX6_prefixes_26 (by decide) (by omega) (fun c_26 => ?_) (fun c_26 => ?_)
              · have hqr : q = r := by have := hrz c_26; omega
                subst hqr
                exact join  ls (lv_sub hl [0, 1, 2, 3] rfl)
              · have hr1 := (hr c_26).1
                have hr2 : ∀ j, j < r → ml.1 (24 * (k - 1) + j) = ml.1 (24 * k + j) := (hr c_26).2.1
                have hr3 : r < min (ml.2.1 (k - 1)) (ml.2.1 k) → ml.1 (24 * (k - 1) + r) ≠ ml.1 (24 * k + r) := (hr c_26).2.2
                refine lv_iload_n hx hb dX6_prefixes_29 rfl (lv_at hl 3 rfl) ?_
                refine lv_aload_n hx hb dX6_prefixes_30 rfl (lv_at hl 0 rfl) ?_
                refine va_get (D := D) (ci := 6) (v := .ref (b 3)) (C := RX6) (T := TX6) (N := 15) hx hb hts hinX6 hown hK hP 0 rfl rfl 5 (by decide) (hts (.fieldLink RX6 16 "TypoSuggesterModel" "sizes" "[I") (by decide +kernel)) (fun _ h9 => h9) rfl dX6_prefixes_31 ?_
                refine lv_iload_n hx hb dX6_prefixes_34 rfl (lv_at hl 2 rfl) ?_
                refine lv_iconst (v := nI 1) hx hb dX6_prefixes_35 (by decide +kernel) ?_
                refine nz_isub (a := k) (b := 1) hx hb dX6_prefixes_36 (by omega) ?_
                refine nz_iald (f := ml.2.1) (k := k - 1) hx hb hK hP 3 1 rfl rfl (by omega) (by decide) dX6_prefixes_37 ?_
                refine nz_cge (a := q) (b := ml.2.1 (k - 1)) (tgt := 84) hx hb dX6_prefixes_38 (by decide) (by omega) (by omega) (fun c_38 => ?_) (fun c_38 => ?_)
                · have hqr : q = r := by omega
                  subst hqr
                  exact join  ls (lv_sub hl [0, 1, 2, 3] rfl)
                · refine lv_iload_n hx hb dX6_prefixes_41 rfl (lv_at hl 3 rfl) ?_
                  refine lv_aload_n hx hb dX6_prefixes_42 rfl (lv_at hl 0 rfl) ?_
                  refine va_get (D := D) (ci := 6) (v := .ref (b 3)) (C := RX6) (T := TX6) (N := 15) hx hb hts hinX6 hown hK hP 0 rfl rfl 5 (by decide) (hts (.fieldLink RX6 16 "TypoSuggesterModel" "sizes" "[I") (by decide +kernel)) (fun _ h9 => h9) rfl dX6_prefixes_43 ?_
                  refine lv_iload_n hx hb dX6_prefixes_46 rfl (lv_at hl 2 rfl) ?_
                  refine nz_iald (f := ml.2.1) (k := k) hx hb hK hP 3 1 rfl rfl (by omega) (by decide) dX6_prefixes_47 ?_
                  refine nz_cge (a := q) (b := ml.2.1 k) (tgt := 84) hx hb dX6_prefixes_48 (by decide) (by omega) (by omega) (fun c_48 => ?_) (fun c_48 => ?_)
                  · have hqr : q = r := by omega
                    subst hqr
                    exact join  ls (lv_sub hl [0, 1, 2, 3] rfl)
                  · refine lv_aload_n hx hb dX6_prefixes_51 rfl (lv_at hl 0 rfl) ?_
                    refine va_get (D := D) (ci := 6) (v := .ref (b 2)) (C := RX6) (T := TX6) (N := 15) hx hb hts hinX6 hown hK hP 0 rfl rfl 4 (by decide) (hts (.fieldLink RX6 13 "TypoSuggesterModel" "letters" "[B") (by decide +kernel)) (fun _ h9 => h9) rfl dX6_prefixes_52 ?_
                    refine lv_bipush (v := nI 24) hx hb dX6_prefixes_55 (by decide +kernel) ?_
                    refine lv_iload_n hx hb dX6_prefixes_57 rfl (lv_at hl 2 rfl) ?_
                    refine lv_iconst (v := nI 1) hx hb dX6_prefixes_58 (by decide +kernel) ?_
                    refine nz_isub (a := k) (b := 1) hx hb dX6_prefixes_59 (by omega) ?_
                    refine nz_imul (a := 24) (b := k - 1) hx hb dX6_prefixes_60 ?_
                    refine lv_iload_n hx hb dX6_prefixes_61 rfl (lv_at hl 3 rfl) ?_
                    refine nz_iadd (a := 24 * (k - 1)) (b := q) hx hb dX6_prefixes_62 ?_
                    refine nz_bald (f := ml.1) (k := 24 * (k - 1) + q) hx hb hK hP 2 0 rfl rfl (by omega) (by decide) dX6_prefixes_63 ?_
                    refine lv_aload_n hx hb dX6_prefixes_64 rfl (lv_at hl 0 rfl) ?_
                    refine va_get (D := D) (ci := 6) (v := .ref (b 2)) (C := RX6) (T := TX6) (N := 15) hx hb hts hinX6 hown hK hP 0 rfl rfl 4 (by decide) (hts (.fieldLink RX6 13 "TypoSuggesterModel" "letters" "[B") (by decide +kernel)) (fun _ h9 => h9) rfl dX6_prefixes_65 ?_
                    refine lv_bipush (v := nI 24) hx hb dX6_prefixes_68 (by decide +kernel) ?_
                    refine lv_iload_n hx hb dX6_prefixes_70 rfl (lv_at hl 2 rfl) ?_
                    refine nz_imul (a := 24) (b := k) hx hb dX6_prefixes_71 ?_
                    refine lv_iload_n hx hb dX6_prefixes_72 rfl (lv_at hl 3 rfl) ?_
                    refine nz_iadd (a := 24 * k) (b := q) hx hb dX6_prefixes_73 ?_
                    refine nz_bald (f := ml.1) (k := 24 * k + q) hx hb hK hP 2 0 rfl rfl (by omega) (by decide) dX6_prefixes_74 ?_
                    refine nz_cne (a := ml.1 (24 * (k - 1) + q)) (b := ml.1 (24 * k + q)) (tgt := 84) hx hb dX6_prefixes_75 (by decide) (by have := hM3 (24 * (k - 1) + q); omega) (by have := hM3 (24 * k + q); omega) (fun c_75 => ?_) (fun c_75 => ?_)
                    · have hqr : q = r := by
                        rcases Nat.lt_or_ge q r with h | h
                        · exact absurd (hr2 q h) c_75
                        · omega
                      subst hqr
                      exact join  ls (lv_sub hl [0, 1, 2, 3] rfl)
                    · have hqr : q < r := by
                        rcases Nat.lt_or_ge q r with h | h
                        · exact h
                        · have h2 : q = r := by omega
                          rw [h2] at c_38 c_48 c_75
                          exact absurd c_75 (hr3 (by omega))
                      refine lv_iinc (v := nI (q + 1)) (lv' := [(3, .int (nI (q + 1))), (0, .ref (b 0)), (1, .int (nI ((if ml.2.2.2.1 = 0 then 0 else 1) + sumF (fun t => ml.2.1 t - (if t = 0 then 0 else sh (t - 1))) k))), (2, .int (nI (k)))]) hx hb dX6_prefixes_78 hl (k := 3) rfl (nz_inc1 _) (by decide) rfl (fun ls hl => ?_)
                      refine lv_goto (tgt := 25) hx hb dX6_prefixes_81 (by decide) ?_
                      exact ih2 (q + 1) (by omega) (by omega) ls (lv_sub hl [1, 2, 3, 0] rfl)
          exact loop2 (r - 0 + 1) 0 (Nat.zero_le _) (Nat.lt_succ_self _) ls (lv_sub hl [1, 2, 3, 0] rfl)
    exact loop (ml.2.2.2.1 - 0 + 1) 0 (Nat.zero_le _) (Nat.lt_succ_self _) ls (lv_sub hl [2, 1, 0] rfl)
abbrev rmX6_learn : Room := { frames := 3, cells := 0, slots := 0, locals := 71 }
set_option maxHeartbeats 4000000 in
set_option maxRecDepth 100000 in
theorem mX6_learn (l : Launch) (D : va_G) (b : Nat → Nat) (cs : Nat → ClassId) (mt : (Nat → Int32) × Nat) (ml : (Nat → Nat) × (Nat → Nat) × (Nat → Nat) × Nat × Nat) (mr : (Nat → Nat) × (Nat → Nat) × (Nat → Nat) × (Nat → Nat) × Nat) (mk : (Nat → Bool) × (Nat → Nat) × (Nat → Nat)) (lx : (Nat → Nat) × (Nat → Nat) × (Nat → Nat) × Nat) (x : Int32) (hb2 : wInjM b) (hM : MlB ml) (hT : mt.2 ≤ 400) (hI : LxI lx) (hRl : Rel lx ml) : Met l yX6_learn wsX6_learn rmX6_learn (wdP D vwCl (wM b cs mt ml mr mk) (tyX cs) [.ref (b 0), .int (x)]) (wrQ (some (.int (lrnI lx mt x))) (fun H => ∃ ml9, (MlB ml9 ∧ Rel (lrnL lx mt x) ml9) ∧ va_P D vwCl (wM b cs (mt.1, lrnT mt x) ml9 mr mk) H) (inM b)) 0 0 (inM b) := by
  obtain ⟨hM1, hM2, hM3, hM4, hM5⟩ := id hM
  refine nz_metWi (by decide) rfl (Nat.le_of_ble_eq_true rfl) rfl ?_
  intro p e s m args below meth c Q hx hb hml hts hown hP hK hret ls hl
  have hl : lv_has ls 7 [(0, .ref (b 0)), (1, .int (x))] := hl
  have hown : s.vm.findClass RX6 = some m.cls := hown
  have hinX6 : ∀ w ∈ u_ws RX6 TX6 15, w ∈ wsX6_learn := by decide +kernel
  have hS : va_S (inM b) s.heap s.heap [] := va_S.rf
  obtain ⟨H, hH⟩ : ∃ H, H = s.heap := ⟨_, rfl⟩
  obtain ⟨locs, hlocs⟩ : ∃ locs : List Loc, locs = [] := ⟨_, rfl⟩
  have hP : va_P D vwCl (wM b cs mt ml mr mk) H := hH ▸ hP
  have hS : va_S (inM b) s.heap H locs := by rw [hH, hlocs]; exact va_S.rf
  suffices hgo : W p l e rmX6_learn s m args below meth c H locs 0 0 Q (F0 m 0 ls []) by rw [hH, hlocs] at hgo; exact hgo
  clear hH hlocs
  refine lv_iload_n hx hb dX6_learn_0 rfl (lv_at hl 1 rfl) ?_
  refine lv_if_lt (tgt := 10) hx hb dX6_learn_1 (by decide) (fun c_1 => ?_) (fun c_1 => ?_)
  · have hno : ¬ lrnOk x := fun h => h.1 c_1
    refine lv_iconst (v := (-1)) hx hb dX6_learn_10 (by decide +kernel) ?_
    have hok : dB (lrnOk x) = false := dB_f hno
    rw [show lrnI lx mt x = -1 by unfold lrnI; rw [hok]; rfl, show lrnL lx mt x = lx by unfold lrnL; rw [hok]; rfl, show lrnT mt x = mt.2 by unfold lrnT; rw [hok]; rfl] at hret
    exact hret 11 ls H locs dX6_learn_11 ⟨_, ⟨hM, hRl⟩, hP⟩ hS
  · obtain ⟨w1, hw1, rfl⟩ := nI_of c_1
    refine lv_iload_n hx hb dX6_learn_4 rfl (lv_at hl 1 rfl) ?_
    refine lv_ldc (v := nI 1000000) hx hb hown (hts (.constant RX6 72 (1000000)) (by decide +kernel)) dX6_learn_5 ?_
    refine nz_cle (a := w1) (b := 1000000) (tgt := 12) hx hb dX6_learn_7 (by decide) (by omega) (by omega) (fun c_7 => ?_) (fun c_7 => ?_)
    · refine lv_iconst (v := nI 0) hx hb dX6_learn_12 (by decide +kernel) ?_
      refine lv_istore_n (lv' := [(2, .int (nI (0))), (0, .ref (b 0)), (1, .int (nI (w1)))]) hx hb dX6_learn_13 rfl hl (by decide) rfl (fun ls hl => ?_)
      refine lv_iconst (v := nI 0) hx hb dX6_learn_14 (by decide +kernel) ?_
      refine lv_istore_n (lv' := [(3, .int (nI (0))), (2, .int (nI (0))), (0, .ref (b 0)), (1, .int (nI (w1)))]) hx hb dX6_learn_15 rfl hl (by decide) rfl (fun ls hl => ?_)
      have loop : ∀ (fuel : Nat) (k : Nat) (lx2 : (Nat → Nat) × (Nat → Nat) × (Nat → Nat) × Nat) (ml2 : (Nat → Nat) × (Nat → Nat) × (Nat → Nat) × Nat × Nat) (c2 : Nat), (k ≤ mt.2 + 1) → (LxI lx2) → (MlB ml2) → (Rel lx2 ml2) → (c2 ≤ k) → ((k ≤ mt.2 → lrn (fun y g n => useX y g n w1) (fun i => lowN (mt.1 i)) (mt.2 - k) k 0 lx2 c2 = lrnA lx mt w1) ∧ (mt.2 < k → (lx2, c2) = lrnA lx mt w1)) → mt.2 + 1 - k < fuel → ∀ (H : Heap) (locs : List Loc), va_P D vwCl (wM b cs mt ml2 mr mk) H → va_S (inM b) s.heap H locs → ∀ ls : Array Slot, lv_has ls 7 [(0, .ref (b 0)), (1, .int (nI (w1))), (2, .int (nI (c2))), (3, .int (nI (k)))] → W p l e rmX6_learn s m args below meth c H locs 0 0 Q (F0 m 16 ls []) := by
        intro fuel
        induction fuel with
        | zero => intro k lx2 ml2 c2 hk hI2 hM9 hRl hc2 hfin hf; exact absurd hf (Nat.not_lt_zero _)
        | succ fuel ih =>
          intro k lx2 ml2 c2 hk hI2 hM9 hRl hc2 hfin hf H locs hP hS ls hl
          refine lv_iload_n hx hb dX6_learn_16 rfl (lv_at hl 3 rfl) ?_
          refine lv_aload_n hx hb dX6_learn_17 rfl (lv_at hl 0 rfl) ?_
          refine va_get (D := D) (ci := 6) (v := .int (nI (mt.2))) (C := RX6) (T := TX6) (N := 15) hx hb hts hinX6 hown hK hP 0 rfl rfl 1 (by decide) (hts (.fieldLink RX6 50 "TypoSuggesterModel" "tapeSize" "I") (by decide +kernel)) (fun _ h9 => h9) rfl dX6_learn_18 ?_
          refine nz_cge (a := k) (b := mt.2) (tgt := 166) hx hb dX6_learn_21 (by decide) (by omega) (by omega) (fun c_21 => ?_) (fun c_21 => ?_)
          · refine lv_aload_n hx hb dX6_learn_166 rfl (lv_at hl 0 rfl) ?_
            refine lv_iconst (v := nI 0) hx hb dX6_learn_167 (by decide +kernel) ?_
            refine nz_put (D := D) (ci := 6) (v := .int (nI (0))) (ty := .int) (ws' := wM b cs (mt.1, 0) ml2 mr mk) (C := RX6) (T := TX6) (N := 15) hx hb hts hinX6 tyX6 tyX6_ok nmX6 hown hK hP (wM_D hb2) hS 0 rfl rfl 1 (by decide) (hts (.fieldLink RX6 50 "TypoSuggesterModel" "tapeSize" "I") (by decide +kernel)) (fun _ h9 => h9) rfl (by decide +kernel) rfl rfl (Nat.le_of_ble_eq_true rfl) dX6_learn_168 rfl (fun H locs hP hS => ?_)
            refine lv_iload_n hx hb dX6_learn_171 rfl (lv_at hl 2 rfl) ?_
            have hok : dB (lrnOk (nI w1)) = true := dB_t ⟨nI_pos hw1, by rw [nI_clamp hw1]; exact c_7⟩
            have hfn : (lx2, c2) = lrnA lx mt w1 := by
              rcases Nat.lt_or_ge mt.2 k with h | h
              · exact hfin.2 h
              · rw [← hfin.1 h, show mt.2 - k = 0 by omega]
                show _ = ((useX lx2 _ (min 0 24) w1).1, c2 + (useX lx2 _ (min 0 24) w1).2)
                rw [useX_0 (len := min 0 24) rfl]
                rfl
            rw [show lrnI lx mt (nI w1) = nI c2 by unfold lrnI; rw [hok, nI_clamp hw1, ← hfn]; rfl, show lrnL lx mt (nI w1) = lx2 by unfold lrnL; rw [hok, nI_clamp hw1, ← hfn]; rfl, show lrnT mt (nI w1) = 0 by unfold lrnT; rw [hok]; rfl] at hret
            exact hret 172 ls H locs dX6_learn_172 ⟨_, ⟨hM9, hRl⟩, hP⟩ hS
          · refine lv_iload_n hx hb dX6_learn_24 rfl (lv_at hl 3 rfl) ?_
            refine lv_istore (lv' := [(4, .int (nI (k))), (0, .ref (b 0)), (1, .int (nI (w1))), (2, .int (nI (c2))), (3, .int (nI (k)))]) hx hb dX6_learn_25 hl (by decide) rfl (fun ls hl => ?_)
            have loop2 : ∀ (fuel : Nat) (k2 : Nat), (k ≤ k2) → (k2 ≤ mt.2) → (∀ j, j < k2 - k → lowN (mt.1 (k + j)) ≠ 0) → (lrn (fun y g n => useX y g n w1) (fun i => lowN (mt.1 i)) (mt.2 - k2) k2 (k2 - k) lx2 c2 = lrnA lx mt w1) → mt.2 - k2 < fuel → ∀ (H : Heap) (locs : List Loc), va_P D vwCl (wM b cs mt ml2 mr mk) H → va_S (inM b) s.heap H locs → ∀ ls : Array Slot, lv_has ls 7 [(0, .ref (b 0)), (1, .int (nI (w1))), (2, .int (nI (c2))), (3, .int (nI (k2))), (4, .int (nI (k)))] → W p l e rmX6_learn s m args below meth c H locs 0 0 Q (F0 m 27 ls []) := by
              intro fuel
              induction fuel with
              | zero => intro k2 hk1 hk2 hlt hf2 hf; exact absurd hf (Nat.not_lt_zero _)
              | succ fuel ih2 =>
                intro k2 hk1 hk2 hlt hf2 hf H locs hP hS ls hl
                refine lv_iload_n hx hb dX6_learn_27 rfl (lv_at hl 3 rfl) ?_
                refine lv_aload_n hx hb dX6_learn_28 rfl (lv_at hl 0 rfl) ?_
                refine va_get (D := D) (ci := 6) (v := .int (nI (mt.2))) (C := RX6) (T := TX6) (N := 15) hx hb hts hinX6 hown hK hP 0 rfl rfl 1 (by decide) (hts (.fieldLink RX6 50 "TypoSuggesterModel" "tapeSize" "I") (by decide +kernel)) (fun _ h9 => h9) rfl dX6_learn_29 ?_
                refine nz_cge (a := k2) (b := mt.2) (tgt := 53) hx hb dX6_learn_32 (by decide) (by omega) (by omega) (fun c_32 => ?_) (fun c_32 => ?_)
                · have hstp : ∀ (lx3 : (Nat → Nat) × (Nat → Nat) × (Nat → Nat) × Nat) (c3 : Nat), (useX lx2 (fun j => lowN (mt.1 (k + j))) (min (k2 - k) 24) w1).1 = lx3 → c2 + (useX lx2 (fun j => lowN (mt.1 (k + j))) (min (k2 - k) 24) w1).2 = c3 → (k2 + 1 ≤ mt.2 → lrn (fun y g n => useX y g n w1) (fun i => lowN (mt.1 i)) (mt.2 - (k2 + 1)) (k2 + 1) 0 lx3 c3 = lrnA lx mt w1) ∧ (mt.2 < k2 + 1 → (lx3, c3) = lrnA lx mt w1) := by
                    intro lx3 c3 e1 e2
                    subst e1
                    subst e2
                    have hkk : k2 - (k2 - k) = k := by omega
                    refine ⟨fun h => ?_, fun h => ?_⟩
                    · rw [← hf2, show mt.2 - k2 = (mt.2 - (k2 + 1)) + 1 by omega, lrn_0 (by first | (exfalso; omega) | exact Decidable.byContradiction (fun z => absurd (decide_eq_true z) (by rw [c_44]; decide))), hkk]
                    · rw [← hf2, show mt.2 - k2 = 0 by omega]
                      show _ = ((useX lx2 (fun j => lowN (mt.1 (k2 - (k2 - k) + j))) (min (k2 - k) 24) w1).1, c2 + (useX lx2 (fun j => lowN (mt.1 (k2 - (k2 - k) + j))) (min (k2 - k) 24) w1).2)
                      rw [hkk]
                  have join : ∀ (y : Nat), (y = min (k2 - k) 24) → ∀ (H : Heap) (locs : List Loc), va_P D vwCl (wM b cs mt ml2 mr mk) H → va_S (inM b) s.heap H locs → ∀ ls : Array Slot, lv_has ls 7 [(0, .ref (b 0)), (1, .int (nI (w1))), (2, .int (nI (c2))), (3, .int (nI (k2))), (4, .int (nI (k)))] → W p l e rmX6_learn s m args below meth c H locs 0 0 Q (F0 m 71 ls [.int (nI (y))]) := by
                    intro y hy H locs hP hS ls hl
                    refine lv_istore (lv' := [(5, .int (nI (y))), (0, .ref (b 0)), (1, .int (nI (w1))), (2, .int (nI (c2))), (3, .int (nI (k2))), (4, .int (nI (k)))]) hx hb dX6_learn_71 hl (by decide) rfl (fun ls hl => ?_)
                    rw [← hy] at hstp
                    have join2 : ∀ (lx3 : (Nat → Nat) × (Nat → Nat) × (Nat → Nat) × Nat) (ml3 : (Nat → Nat) × (Nat → Nat) × (Nat → Nat) × Nat × Nat) (c3 : Nat), (LxI lx3) → (MlB ml3) → (Rel lx3 ml3) → ((useX lx2 (fun j => lowN (mt.1 (k + j))) y w1).1 = lx3 ∧ c2 + (useX lx2 (fun j => lowN (mt.1 (k + j))) y w1).2 = c3) → ∀ (H : Heap) (locs : List Loc), va_P D vwCl (wM b cs mt ml3 mr mk) H → va_S (inM b) s.heap H locs → ∀ ls : Array Slot, lv_has ls 7 [(0, .ref (b 0)), (1, .int (nI (w1))), (2, .int (nI (c3))), (3, .int (nI (k2)))] → W p l e rmX6_learn s m args below meth c H locs 0 0 Q (F0 m 160 ls []) := by
                      intro lx3 ml3 c3 hJ1 hJ2 hJ3 hJe H locs hP hS ls hl
                      have hJ4 := hstp lx3 c3 hJe.1 hJe.2
                      have hu9 := (useX_inv (f := fun j => lowN (mt.1 (k + j))) (len := y) (wt := w1) hI2 ⟨by show y ≤ 24; omega, fun j => lowN_lt _⟩ (by omega)).2
                      have hJ5 : c3 ≤ k2 + 1 := by have := hJe.2; omega
                      refine lv_iinc (v := nI (k2 + 1)) (lv' := [(3, .int (nI (k2 + 1))), (0, .ref (b 0)), (1, .int (nI (w1))), (2, .int (nI (c3)))]) hx hb dX6_learn_160 hl (k := 3) rfl (nz_inc1 _) (by decide) rfl (fun ls hl => ?_)
                      refine lv_goto (tgt := 16) hx hb dX6_learn_163 (by decide) ?_
                      exact ih (k2 + 1) lx3 ml3 c3 (by omega) hJ1 hJ2 hJ3 hJ5 hJ4 (by omega) H locs hP hS ls (lv_sub hl [1, 2, 3, 0] rfl)
                    refine lv_iload hx hb dX6_learn_73 (lv_at hl 0 rfl) ?_
                    refine nz_ifle (a := y) (tgt := 160) hx hb dX6_learn_75 (by decide) (by omega) (fun c_75 => ?_) (fun c_75 => ?_)
                    · exact join2 lx2 ml2 c2 hI2 hM9 hRl (by rw [useX_0 c_75]; exact ⟨rfl, rfl⟩) H locs hP hS ls (lv_sub hl [1, 2, 3, 4] rfl)
                    · have hu8 := useX_inv (f := fun j => lowN (mt.1 (k + j))) (len := y) (wt := w1) hI2 ⟨by show y ≤ 24; omega, fun j => lowN_lt _⟩ (by omega)
                      have hpl8 := plX_is hI2 (fun j => lowN (mt.1 (k + j))) y
                      have hfn := rel_fn hI2 hRl hpl8
                      have hlc := hI2.1.1
                      have hpl9 := hpl8.1
                      refine lv_aload_n hx hb dX6_learn_78 rfl (lv_at hl 1 rfl) ?_
                      refine lv_iload hx hb dX6_learn_79 (lv_at hl 5 rfl) ?_
                      refine lv_iload hx hb dX6_learn_81 (lv_at hl 0 rfl) ?_
                      refine nz_callR (va_runV (As := [.int (nI (k)), .int (nI (y))]) (rest := []) ⟨hx, hb, hml, hown, hts⟩ (mX6_find l D b cs mt ml2 mr mk k y (dB (stdX lx2 (fun j => lowN (mt.1 (k + j))) y (plX lx2 (fun j => lowN (mt.1 (k + j))) y))) ((plX lx2 (fun j => lowN (mt.1 (k + j))) y)) hM9 (by omega) (by omega) (fun j hj => hlt j (by omega)) hfn.1 hfn.2.1) (cwV 2 hts gX6_learn_X6_find rfl rfl rfl (by decide +kernel) ⟨Nat.le_of_ble_eq_true rfl, Nat.le_of_ble_eq_true rfl⟩) (nz_preV (ci := 6) (q0 := 0) hK hP rfl rfl) rfl rfl hl.1 rfl (lv_room (Nat.le_of_ble_eq_true rfl)) dX6_learn_83 ⟨Nat.zero_le _, Nat.zero_le _⟩) ?_
                      refine lv_istore (lv' := [(6, .int (bif (dB (stdX lx2 (fun j => lowN (mt.1 (k + j))) y (plX lx2 (fun j => lowN (mt.1 (k + j))) y))) then nI ((plX lx2 (fun j => lowN (mt.1 (k + j))) y)) else (-1))), (5, .int (nI (y))), (0, .ref (b 0)), (1, .int (nI (w1))), (2, .int (nI (c2))), (3, .int (nI (k2))), (4, .int (nI (k)))]) hx hb dX6_learn_86 hl (by decide) rfl (fun ls hl => ?_)
                      refine lv_iload hx hb dX6_learn_88 (lv_at hl 0 rfl) ?_
                      refine lv_if_lt (tgt := 139) hx hb dX6_learn_90 (by decide) (fun c_90 => ?_) (fun c_90 => ?_)
                      · have hb1f := pb_neg (by omega) c_90
                        refine lv_iload_n hx hb dX6_learn_139 rfl (lv_at hl 4 rfl) ?_
                        refine lv_aload_n hx hb dX6_learn_140 rfl (lv_at hl 2 rfl) ?_
                        refine lv_iload hx hb dX6_learn_141 (lv_at hl 6 rfl) ?_
                        refine lv_iload hx hb dX6_learn_143 (lv_at hl 1 rfl) ?_
                        refine lv_iload_n hx hb dX6_learn_145 rfl (lv_at hl 3 rfl) ?_
                        refine nz_i2l hx hb dX6_learn_146 (by omega) ?_
                        have hpm := hfn.2.2 hb1f
                        refine nz_callW (va_runV (As := [.int (nI (k)), .int (nI (y)), .long (lN (w1))]) (rest := [.int (nI (c2))]) ⟨hx, hb, hml, hown, hts⟩ (mX6_add l D b cs mt ml2 mr mk k y w1 ((plX lx2 (fun j => lowN (mt.1 (k + j))) y)) (dB (roomX lx2 y)) hb2 hM9 (by omega) (by omega) (fun j hj => hlt j (by omega)) (by omega) hpm.1 hpm.2.1 hpm.2.2 (dB_iff.trans (rel_room hRl).symm)) (cwV 3 hts gX6_learn_X6_add rfl rfl rfl (by decide +kernel) ⟨Nat.le_of_ble_eq_true rfl, Nat.le_of_ble_eq_true rfl⟩) (nz_preV (ci := 6) (q0 := 0) hK hP rfl rfl) rfl rfl hl.1 rfl (lv_room (Nat.le_of_ble_eq_true rfl)) dX6_learn_147 ⟨Nat.zero_le _, Nat.zero_le _⟩) hS (fun _ h => h) (fun H locs hP _ _ hS => ?_)
                        obtain ⟨ml9_1, hml9, hP⟩ := hP
                        refine lv_if_lt (tgt := 157) hx hb dX6_learn_150 (by decide) (fun c_150 => ?_) (fun c_150 => ?_)
                        · have hbv := pb_neg (by omega) c_150
                          refine lv_iconst (v := nI 0) hx hb dX6_learn_157 (by decide +kernel) ?_
                          refine nz_iadd (a := c2) (b := 0) hx hb dX6_learn_158 ?_
                          refine nz_top (y := nI (c2)) (by rfl) ?_
                          refine lv_istore_n (lv' := [(2, .int (nI (c2))), (6, .int (bif (dB (stdX lx2 (fun j => lowN (mt.1 (k + j))) y (plX lx2 (fun j => lowN (mt.1 (k + j))) y))) then nI ((plX lx2 (fun j => lowN (mt.1 (k + j))) y)) else (-1))), (5, .int (nI (y))), (0, .ref (b 0)), (1, .int (nI (w1))), (3, .int (nI (k2))), (4, .int (nI (k)))]) hx hb dX6_learn_159 rfl hl (by decide) rfl (fun ls hl => ?_)
                          exact join2 ((useX lx2 (fun j => lowN (mt.1 (k + j))) y w1).1) ml9_1 c2 hu8.1 hml9.1 (by rw [useX_pos c_75, hb1f, hbv]; rw [hml9.2.2 hbv]; exact hRl) ⟨rfl, by rw [useX_pos c_75, hb1f, hbv]; rfl⟩ H locs hP hS ls (lv_sub hl [3, 4, 0, 5] rfl)
                        · have hbv := pb_pos c_150
                          refine lv_iconst (v := nI 1) hx hb dX6_learn_153 (by decide +kernel) ?_
                          refine lv_goto (tgt := 158) hx hb dX6_learn_154 (by decide) ?_
                          refine nz_iadd (a := c2) (b := 1) hx hb dX6_learn_158 ?_
                          refine lv_istore_n (lv' := [(2, .int (nI (c2 + 1))), (6, .int (bif (dB (stdX lx2 (fun j => lowN (mt.1 (k + j))) y (plX lx2 (fun j => lowN (mt.1 (k + j))) y))) then nI ((plX lx2 (fun j => lowN (mt.1 (k + j))) y)) else (-1))), (5, .int (nI (y))), (0, .ref (b 0)), (1, .int (nI (w1))), (3, .int (nI (k2))), (4, .int (nI (k)))]) hx hb dX6_learn_159 rfl hl (by decide) rfl (fun ls hl => ?_)
                          exact join2 ((useX lx2 (fun j => lowN (mt.1 (k + j))) y w1).1) ml9_1 (c2 + 1) hu8.1 hml9.1 (by rw [useX_pos c_75, hb1f, hbv]; exact rel_ins hI2.1 hRl hpl8.1 (hml9.2.1 hbv).1 (hml9.2.1 hbv).2.1 (hml9.2.1 hbv).2.2) ⟨rfl, by rw [useX_pos c_75, hb1f, hbv]; rfl⟩ H locs hP hS ls (lv_sub hl [3, 4, 0, 5] rfl)
                      · have hb1t := pb_pos c_90
                        have e_2 : (bif (dB (stdX lx2 (fun j => lowN (mt.1 (k + j))) y (plX lx2 (fun j => lowN (mt.1 (k + j))) y))) then nI ((plX lx2 (fun j => lowN (mt.1 (k + j))) y)) else (-1)) = (nI ((plX lx2 (fun j => lowN (mt.1 (k + j))) y))) := by rw [hb1t]; rfl
                        have hl : lv_has ls 7 [(6, .int (nI ((plX lx2 (fun j => lowN (mt.1 (k + j))) y)))), (5, .int (nI (y))), (0, .ref (b 0)), (1, .int (nI (w1))), (2, .int (nI (c2))), (3, .int (nI (k2))), (4, .int (nI (k)))] := by rw [← e_2]; exact hl
                        have hrc : (plX lx2 (fun j => lowN (mt.1 (k + j))) y) < ml2.2.2.2.1 := (hfn.1 hb1t).1
                        have hnc := hM9.1
                        have hwe : ml2.2.2.1 (plX lx2 (fun j => lowN (mt.1 (k + j))) y) = lx2.2.2.1 (plX lx2 (fun j => lowN (mt.1 (k + j))) y) := (hRl.2.1 _ (by rw [← hRl.1]; exact hrc)).2.2
                        have hwb := hM9.2.2.2.1 (plX lx2 (fun j => lowN (mt.1 (k + j))) y)
                        have join3 : ∀ (z : Nat), (z = min (lx2.2.2.1 (plX lx2 (fun j => lowN (mt.1 (k + j))) y) + w1) 1000000000000) → ∀ (H : Heap) (locs : List Loc), va_P D vwCl (wM b cs mt ml2 mr mk) H → va_S (inM b) s.heap H locs → ∀ ls : Array Slot, lv_has ls 7 [(0, .ref (b 0)), (1, .int (nI (w1))), (2, .int (nI (c2))), (3, .int (nI (k2)))] → W p l e rmX6_learn s m args below meth c H locs 0 0 Q (F0 m 132 ls [.long (lN (z)), .int (nI ((plX lx2 (fun j => lowN (mt.1 (k + j))) y))), .ref (b 4)]) := by
                          intro z hz9 H locs hP hS ls hl
                          refine nz_last (f := ml2.2.2.1) (k := (plX lx2 (fun j => lowN (mt.1 (k + j))) y)) (v := z) (ws' := wM b cs mt (ml2.1, ml2.2.1, va_up ml2.2.2.1 ((plX lx2 (fun j => lowN (mt.1 (k + j))) y)) z, ml2.2.2.2.1, ml2.2.2.2.2) mr mk) hx hb hK hP (wM_D hb2) hS 4 2 rfl rfl (by omega) (by decide) dX6_learn_132 rfl (fun H locs hP hS => ?_)
                          refine lv_iinc (v := nI (c2 + 1)) (lv' := [(2, .int (nI (c2 + 1))), (0, .ref (b 0)), (1, .int (nI (w1))), (3, .int (nI (k2)))]) hx hb dX6_learn_133 hl (k := 2) rfl (nz_inc1 _) (by decide) rfl (fun ls hl => ?_)
                          refine lv_goto (tgt := 160) hx hb dX6_learn_136 (by decide) ?_
                          exact join2 (lxAdd lx2 (plX lx2 (fun j => lowN (mt.1 (k + j))) y) w1) ((ml2.1, ml2.2.1, va_up ml2.2.2.1 ((plX lx2 (fun j => lowN (mt.1 (k + j))) y)) z, ml2.2.2.2.1, ml2.2.2.2.2)) (c2 + 1) (lxI_add hI2) (mlB_set (ml := ml2) hM9 (by omega)) (by have := rel_set (p := (plX lx2 (fun j => lowN (mt.1 (k + j))) y)) (wt := min (lx2.2.2.1 (plX lx2 (fun j => lowN (mt.1 (k + j))) y) + w1) 1000000000000) hRl; rw [hz9]; exact this) (by rw [useX_pos c_75, hb1t]; exact ⟨rfl, rfl⟩) H locs hP hS ls (lv_sub hl [1, 2, 0, 3] rfl)
                        refine lv_aload_n hx hb dX6_learn_93 rfl (lv_at hl 2 rfl) ?_
                        refine va_get (D := D) (ci := 6) (v := .ref (b 4)) (C := RX6) (T := TX6) (N := 15) hx hb hts hinX6 hown hK hP 0 rfl rfl 6 (by decide) (hts (.fieldLink RX6 20 "TypoSuggesterModel" "weights" "[J") (by decide +kernel)) (fun _ h9 => h9) rfl dX6_learn_94 ?_
                        refine lv_iload hx hb dX6_learn_97 (lv_at hl 0 rfl) ?_
                        refine lv_aload_n hx hb dX6_learn_99 rfl (lv_at hl 2 rfl) ?_
                        refine va_get (D := D) (ci := 6) (v := .ref (b 4)) (C := RX6) (T := TX6) (N := 15) hx hb hts hinX6 hown hK hP 0 rfl rfl 6 (by decide) (hts (.fieldLink RX6 20 "TypoSuggesterModel" "weights" "[J") (by decide +kernel)) (fun _ h9 => h9) rfl dX6_learn_100 ?_
                        refine lv_iload hx hb dX6_learn_103 (lv_at hl 0 rfl) ?_
                        refine nz_lald (f := ml2.2.2.1) (k := (plX lx2 (fun j => lowN (mt.1 (k + j))) y)) hx hb hK hP 4 2 rfl rfl (by omega) (by decide) dX6_learn_105 ?_
                        refine lv_iload_n hx hb dX6_learn_106 rfl (lv_at hl 3 rfl) ?_
                        refine nz_i2l hx hb dX6_learn_107 (by omega) ?_
                        refine nz_ladd (a := ml2.2.2.1 ((plX lx2 (fun j => lowN (mt.1 (k + j))) y))) (b := w1) hx hb dX6_learn_108 ?_
                        refine lv_ldc2 (v := lN (1000000000000)) hx hb hown (hts (.constantLong RX6 80 (1000000000000)) (by decide +kernel)) dX6_learn_109 ?_
                        refine W.lcmp hx hb dX6_learn_112 ?_
                        refine nz_lle (a := ml2.2.2.1 ((plX lx2 (fun j => lowN (mt.1 (k + j))) y)) + w1) (b := 1000000000000) (tgt := 122) hx hb dX6_learn_113 (by decide) (by omega) (by omega) (fun c_113 => ?_) (fun c_113 => ?_)
                        · refine lv_aload_n hx hb dX6_learn_122 rfl (lv_at hl 2 rfl) ?_
                          refine va_get (D := D) (ci := 6) (v := .ref (b 4)) (C := RX6) (T := TX6) (N := 15) hx hb hts hinX6 hown hK hP 0 rfl rfl 6 (by decide) (hts (.fieldLink RX6 20 "TypoSuggesterModel" "weights" "[J") (by decide +kernel)) (fun _ h9 => h9) rfl dX6_learn_123 ?_
                          refine lv_iload hx hb dX6_learn_126 (lv_at hl 0 rfl) ?_
                          refine nz_lald (f := ml2.2.2.1) (k := (plX lx2 (fun j => lowN (mt.1 (k + j))) y)) hx hb hK hP 4 2 rfl rfl (by omega) (by decide) dX6_learn_128 ?_
                          refine lv_iload_n hx hb dX6_learn_129 rfl (lv_at hl 3 rfl) ?_
                          refine nz_i2l hx hb dX6_learn_130 (by omega) ?_
                          refine nz_ladd (a := ml2.2.2.1 ((plX lx2 (fun j => lowN (mt.1 (k + j))) y))) (b := w1) hx hb dX6_learn_131 ?_
                          exact join3 (ml2.2.2.1 ((plX lx2 (fun j => lowN (mt.1 (k + j))) y)) + w1) (by omega) H locs hP hS ls (lv_sub hl [2, 3, 4, 5] rfl)
                        · refine lv_ldc2 (v := lN (1000000000000)) hx hb hown (hts (.constantLong RX6 80 (1000000000000)) (by decide +kernel)) dX6_learn_116 ?_
                          refine lv_goto (tgt := 132) hx hb dX6_learn_119 (by decide) ?_
                          exact join3 1000000000000 (by omega) H locs hP hS ls (lv_sub hl [2, 3, 4, 5] rfl)
                  refine lv_iload_n hx hb dX6_learn_53 rfl (lv_at hl 3 rfl) ?_
                  refine lv_iload hx hb dX6_learn_54 (lv_at hl 4 rfl) ?_
                  refine nz_isub (a := k2) (b := k) hx hb dX6_learn_56 (by omega) ?_
                  refine lv_bipush (v := nI 24) hx hb dX6_learn_57 (by decide +kernel) ?_
                  refine nz_cle (a := k2 - k) (b := 24) (tgt := 67) hx hb dX6_learn_59 (by decide) (by omega) (by omega) (fun c_59 => ?_) (fun c_59 => ?_)
                  · refine lv_iload_n hx hb dX6_learn_67 rfl (lv_at hl 3 rfl) ?_
                    refine lv_iload hx hb dX6_learn_68 (lv_at hl 4 rfl) ?_
                    refine nz_isub (a := k2) (b := k) hx hb dX6_learn_70 (by omega) ?_
                    exact join (k2 - k) (by omega) H locs hP hS ls (lv_sub hl [0, 1, 2, 3, 4] rfl)
                  · refine lv_bipush (v := nI 24) hx hb dX6_learn_62 (by decide +kernel) ?_
                    refine lv_goto (tgt := 71) hx hb dX6_learn_64 (by decide) ?_
                    exact join 24 (by omega) H locs hP hS ls (lv_sub hl [0, 1, 2, 3, 4] rfl)
                · refine lv_aload_n hx hb dX6_learn_35 rfl (lv_at hl 0 rfl) ?_
                  refine va_get (D := D) (ci := 6) (v := .ref (b 1)) (C := RX6) (T := TX6) (N := 15) hx hb hts hinX6 hown hK hP 0 rfl rfl 0 (by decide) (hts (.fieldLink RX6 7 "TypoSuggesterModel" "tape" "[B") (by decide +kernel)) (fun _ h9 => h9) rfl dX6_learn_36 ?_
                  refine lv_iload_n hx hb dX6_learn_39 rfl (lv_at hl 3 rfl) ?_
                  refine nz_baldR (f := mt.1) (k := k2) hx hb hK hP 1 0 rfl rfl (by omega) (by decide) dX6_learn_40 ?_
                  refine nz_callR (va_runS (As := [.int (mt.1 k2)]) (rest := []) ⟨hx, hb, hml, hown, hts⟩ (mX6_isLetter l D b cs mt ml2 mr mk (mt.1 k2)) (va_cwS 1 hts gX6_learn_X6_isLetter rfl rfl rfl (by decide +kernel) ⟨Nat.le_of_ble_eq_true rfl, Nat.le_of_ble_eq_true rfl⟩) (nz_preS hK hP) rfl rfl hl.1 rfl (lv_room (Nat.le_of_ble_eq_true rfl)) dX6_learn_41 ⟨Nat.zero_le _, Nat.zero_le _⟩) ?_
                  refine nz_ifeqB (tgt := 53) hx hb dX6_learn_44 (by decide) (fun c_44 => ?_) (fun c_44 => ?_)
                  · have hstp : ∀ (lx3 : (Nat → Nat) × (Nat → Nat) × (Nat → Nat) × Nat) (c3 : Nat), (useX lx2 (fun j => lowN (mt.1 (k + j))) (min (k2 - k) 24) w1).1 = lx3 → c2 + (useX lx2 (fun j => lowN (mt.1 (k + j))) (min (k2 - k) 24) w1).2 = c3 → (k2 + 1 ≤ mt.2 → lrn (fun y g n => useX y g n w1) (fun i => lowN (mt.1 i)) (mt.2 - (k2 + 1)) (k2 + 1) 0 lx3 c3 = lrnA lx mt w1) ∧ (mt.2 < k2 + 1 → (lx3, c3) = lrnA lx mt w1) := by
                      intro lx3 c3 e1 e2
                      subst e1
                      subst e2
                      have hkk : k2 - (k2 - k) = k := by omega
                      refine ⟨fun h => ?_, fun h => ?_⟩
                      · rw [← hf2, show mt.2 - k2 = (mt.2 - (k2 + 1)) + 1 by omega, lrn_0 (by first | (exfalso; omega) | exact Decidable.byContradiction (fun z => absurd (decide_eq_true z) (by rw [c_44]; decide))), hkk]
                      · rw [← hf2, show mt.2 - k2 = 0 by omega]
                        show _ = ((useX lx2 (fun j => lowN (mt.1 (k2 - (k2 - k) + j))) (min (k2 - k) 24) w1).1, c2 + (useX lx2 (fun j => lowN (mt.1 (k2 - (k2 - k) + j))) (min (k2 - k) 24) w1).2)
                        rw [hkk]
                    have join : ∀ (y : Nat), (y = min (k2 - k) 24) → ∀ (H : Heap) (locs : List Loc), va_P D vwCl (wM b cs mt ml2 mr mk) H → va_S (inM b) s.heap H locs → ∀ ls : Array Slot, lv_has ls 7 [(0, .ref (b 0)), (1, .int (nI (w1))), (2, .int (nI (c2))), (3, .int (nI (k2))), (4, .int (nI (k)))] → W p l e rmX6_learn s m args below meth c H locs 0 0 Q (F0 m 71 ls [.int (nI (y))]) := by
                      intro y hy H locs hP hS ls hl
                      refine lv_istore (lv' := [(5, .int (nI (y))), (0, .ref (b 0)), (1, .int (nI (w1))), (2, .int (nI (c2))), (3, .int (nI (k2))), (4, .int (nI (k)))]) hx hb dX6_learn_71 hl (by decide) rfl (fun ls hl => ?_)
                      rw [← hy] at hstp
                      have join2 : ∀ (lx3 : (Nat → Nat) × (Nat → Nat) × (Nat → Nat) × Nat) (ml3 : (Nat → Nat) × (Nat → Nat) × (Nat → Nat) × Nat × Nat) (c3 : Nat), (LxI lx3) → (MlB ml3) → (Rel lx3 ml3) → ((useX lx2 (fun j => lowN (mt.1 (k + j))) y w1).1 = lx3 ∧ c2 + (useX lx2 (fun j => lowN (mt.1 (k + j))) y w1).2 = c3) → ∀ (H : Heap) (locs : List Loc), va_P D vwCl (wM b cs mt ml3 mr mk) H → va_S (inM b) s.heap H locs → ∀ ls : Array Slot, lv_has ls 7 [(0, .ref (b 0)), (1, .int (nI (w1))), (2, .int (nI (c3))), (3, .int (nI (k2)))] → W p l e rmX6_learn s m args below meth c H locs 0 0 Q (F0 m 160 ls []) := by
                        intro lx3 ml3 c3 hJ1 hJ2 hJ3 hJe H locs hP hS ls hl
                        have hJ4 := hstp lx3 c3 hJe.1 hJe.2
                        have hu9 := (useX_inv (f := fun j => lowN (mt.1 (k + j))) (len := y) (wt := w1) hI2 ⟨by show y ≤ 24; omega, fun j => lowN_lt _⟩ (by omega)).2
                        have hJ5 : c3 ≤ k2 + 1 := by have := hJe.2; omega
                        refine lv_iinc (v := nI (k2 + 1)) (lv' := [(3, .int (nI (k2 + 1))), (0, .ref (b 0)), (1, .int (nI (w1))), (2, .int (nI (c3)))]) hx hb dX6_learn_160 hl (k := 3) rfl (nz_inc1 _) (by decide) rfl (fun ls hl => ?_)
                        refine lv_goto (tgt := 16) hx hb dX6_learn_163 (by decide) ?_
                        exact ih (k2 + 1) lx3 ml3 c3 (by omega) hJ1 hJ2 hJ3 hJ5 hJ4 (by omega) H locs hP hS ls (lv_sub hl [1, 2, 3, 0] rfl)
                      refine lv_iload hx hb dX6_learn_73 (lv_at hl 0 rfl) ?_
                      refine nz_ifle (a := y) (tgt := 160) hx hb dX6_learn_75 (by decide) (by omega) (fun c_75 => ?_) (fun c_75 => ?_)
                      · exact join2 lx2 ml2 c2 hI2 hM9 hRl (by rw [useX_0 c_75]; exact ⟨rfl, rfl⟩) H locs hP hS ls (lv_sub hl [1, 2, 3, 4] rfl)
                      · have hu8 := useX_inv (f := fun j => lowN (mt.1 (k + j))) (len := y) (wt := w1) hI2 ⟨by show y ≤ 24; omega, fun j => lowN_lt _⟩ (by omega)
                        have hpl8 := plX_is hI2 (fun j => lowN (mt.1 (k + j))) y
                        have hfn := rel_fn hI2 hRl hpl8
                        have hlc := hI2.1.1
                        have hpl9 := hpl8.1
                        refine lv_aload_n hx hb dX6_learn_78 rfl (lv_at hl 1 rfl) ?_
                        refine lv_iload hx hb dX6_learn_79 (lv_at hl 5 rfl) ?_
                        refine lv_iload hx hb dX6_learn_81 (lv_at hl 0 rfl) ?_
                        refine nz_callR (va_runV (As := [.int (nI (k)), .int (nI (y))]) (rest := []) ⟨hx, hb, hml, hown, hts⟩ (mX6_find l D b cs mt ml2 mr mk k y (dB (stdX lx2 (fun j => lowN (mt.1 (k + j))) y (plX lx2 (fun j => lowN (mt.1 (k + j))) y))) ((plX lx2 (fun j => lowN (mt.1 (k + j))) y)) hM9 (by omega) (by omega) (fun j hj => hlt j (by omega)) hfn.1 hfn.2.1) (cwV 2 hts gX6_learn_X6_find rfl rfl rfl (by decide +kernel) ⟨Nat.le_of_ble_eq_true rfl, Nat.le_of_ble_eq_true rfl⟩) (nz_preV (ci := 6) (q0 := 0) hK hP rfl rfl) rfl rfl hl.1 rfl (lv_room (Nat.le_of_ble_eq_true rfl)) dX6_learn_83 ⟨Nat.zero_le _, Nat.zero_le _⟩) ?_
                        refine lv_istore (lv' := [(6, .int (bif (dB (stdX lx2 (fun j => lowN (mt.1 (k + j))) y (plX lx2 (fun j => lowN (mt.1 (k + j))) y))) then nI ((plX lx2 (fun j => lowN (mt.1 (k + j))) y)) else (-1))), (5, .int (nI (y))), (0, .ref (b 0)), (1, .int (nI (w1))), (2, .int (nI (c2))), (3, .int (nI (k2))), (4, .int (nI (k)))]) hx hb dX6_learn_86 hl (by decide) rfl (fun ls hl => ?_)
                        refine lv_iload hx hb dX6_learn_88 (lv_at hl 0 rfl) ?_
                        refine lv_if_lt (tgt := 139) hx hb dX6_learn_90 (by decide) (fun c_90 => ?_) (fun c_90 => ?_)
                        · have hb1f := pb_neg (by omega) c_90
                          refine lv_iload_n hx hb dX6_learn_139 rfl (lv_at hl 4 rfl) ?_
                          refine lv_aload_n hx hb dX6_learn_140 rfl (lv_at hl 2 rfl) ?_
                          refine lv_iload hx hb dX6_learn_141 (lv_at hl 6 rfl) ?_
                          refine lv_iload hx hb dX6_learn_143 (lv_at hl 1 rfl) ?_
                          refine lv_iload_n hx hb dX6_learn_145 rfl (lv_at hl 3 rfl) ?_
                          refine nz_i2l hx hb dX6_learn_146 (by omega) ?_
                          have hpm := hfn.2.2 hb1f
                          refine nz_callW (va_runV (As := [.int (nI (k)), .int (nI (y)), .long (lN (w1))]) (rest := [.int (nI (c2))]) ⟨hx, hb, hml, hown, hts⟩ (mX6_add l D b cs mt ml2 mr mk k y w1 ((plX lx2 (fun j => lowN (mt.1 (k + j))) y)) (dB (roomX lx2 y)) hb2 hM9 (by omega) (by omega) (fun j hj => hlt j (by omega)) (by omega) hpm.1 hpm.2.1 hpm.2.2 (dB_iff.trans (rel_room hRl).symm)) (cwV 3 hts gX6_learn_X6_add rfl rfl rfl (by decide +kernel) ⟨Nat.le_of_ble_eq_true rfl, Nat.le_of_ble_eq_true rfl⟩) (nz_preV (ci := 6) (q0 := 0) hK hP rfl rfl) rfl rfl hl.1 rfl (lv_room (Nat.le_of_ble_eq_true rfl)) dX6_learn_147 ⟨Nat.zero_le _, Nat.zero_le _⟩) hS (fun _ h => h) (fun H locs hP _ _ hS => ?_)
                          obtain ⟨ml9_3, hml9, hP⟩ := hP
                          refine lv_if_lt (tgt := 157) hx hb dX6_learn_150 (by decide) (fun c_150 => ?_) (fun c_150 => ?_)
                          · have hbv := pb_neg (by omega) c_150
                            refine lv_iconst (v := nI 0) hx hb dX6_learn_157 (by decide +kernel) ?_
                            refine nz_iadd (a := c2) (b := 0) hx hb dX6_learn_158 ?_
                            refine nz_top (y := nI (c2)) (by rfl) ?_
                            refine lv_istore_n (lv' := [(2, .int (nI (c2))), (6, .int (bif (dB (stdX lx2 (fun j => lowN (mt.1 (k + j))) y (plX lx2 (fun j => lowN (mt.1 (k + j))) y))) then nI ((plX lx2 (fun j => lowN (mt.1 (k + j))) y)) else (-1))), (5, .int (nI (y))), (0, .ref (b 0)), (1, .int (nI (w1))), (3, .int (nI (k2))), (4, .int (nI (k)))]) hx hb dX6_learn_159 rfl hl (by decide) rfl (fun ls hl => ?_)
                            exact join2 ((useX lx2 (fun j => lowN (mt.1 (k + j))) y w1).1) ml9_3 c2 hu8.1 hml9.1 (by rw [useX_pos c_75, hb1f, hbv]; rw [hml9.2.2 hbv]; exact hRl) ⟨rfl, by rw [useX_pos c_75, hb1f, hbv]; rfl⟩ H locs hP hS ls (lv_sub hl [3, 4, 0, 5] rfl)
                          · have hbv := pb_pos c_150
                            refine lv_iconst (v := nI 1) hx hb dX6_learn_153 (by decide +kernel) ?_
                            refine lv_goto (tgt := 158) hx hb dX6_learn_154 (by decide) ?_
                            refine nz_iadd (a := c2) (b := 1) hx hb dX6_learn_158 ?_
                            refine lv_istore_n (lv' := [(2, .int (nI (c2 + 1))), (6, .int (bif (dB (stdX lx2 (fun j => lowN (mt.1 (k + j))) y (plX lx2 (fun j => lowN (mt.1 (k + j))) y))) then nI ((plX lx2 (fun j => lowN (mt.1 (k + j))) y)) else (-1))), (5, .int (nI (y))), (0, .ref (b 0)), (1, .int (nI (w1))), (3, .int (nI (k2))), (4, .int (nI (k)))]) hx hb dX6_learn_159 rfl hl (by decide) rfl (fun ls hl => ?_)
                            exact join2 ((useX lx2 (fun j => lowN (mt.1 (k + j))) y w1).1) ml9_3 (c2 + 1) hu8.1 hml9.1 (by rw [useX_pos c_75, hb1f, hbv]; exact rel_ins hI2.1 hRl hpl8.1 (hml9.2.1 hbv).1 (hml9.2.1 hbv).2.1 (hml9.2.1 hbv).2.2) ⟨rfl, by rw [useX_pos c_75, hb1f, hbv]; rfl⟩ H locs hP hS ls (lv_sub hl [3, 4, 0, 5] rfl)
                        · have hb1t := pb_pos c_90
                          have e_4 : (bif (dB (stdX lx2 (fun j => lowN (mt.1 (k + j))) y (plX lx2 (fun j => lowN (mt.1 (k + j))) y))) then nI ((plX lx2 (fun j => lowN (mt.1 (k + j))) y)) else (-1)) = (nI ((plX lx2 (fun j => lowN (mt.1 (k + j))) y))) := by rw [hb1t]; rfl
                          have hl : lv_has ls 7 [(6, .int (nI ((plX lx2 (fun j => lowN (mt.1 (k + j))) y)))), (5, .int (nI (y))), (0, .ref (b 0)), (1, .int (nI (w1))), (2, .int (nI (c2))), (3, .int (nI (k2))), (4, .int (nI (k)))] := by rw [← e_4]; exact hl
                          have hrc : (plX lx2 (fun j => lowN (mt.1 (k + j))) y) < ml2.2.2.2.1 := (hfn.1 hb1t).1
                          have hnc := hM9.1
                          have hwe : ml2.2.2.1 (plX lx2 (fun j => lowN (mt.1 (k + j))) y) = lx2.2.2.1 (plX lx2 (fun j => lowN (mt.1 (k + j))) y) := (hRl.2.1 _ (by rw [← hRl.1]; exact hrc)).2.2
                          have hwb := hM9.2.2.2.1 (plX lx2 (fun j => lowN (mt.1 (k + j))) y)
                          have join3 : ∀ (z : Nat), (z = min (lx2.2.2.1 (plX lx2 (fun j => lowN (mt.1 (k + j))) y) + w1) 1000000000000) → ∀ (H : Heap) (locs : List Loc), va_P D vwCl (wM b cs mt ml2 mr mk) H → va_S (inM b) s.heap H locs → ∀ ls : Array Slot, lv_has ls 7 [(0, .ref (b 0)), (1, .int (nI (w1))), (2, .int (nI (c2))), (3, .int (nI (k2)))] → W p l e rmX6_learn s m args below meth c H locs 0 0 Q (F0 m 132 ls [.long (lN (z)), .int (nI ((plX lx2 (fun j => lowN (mt.1 (k + j))) y))), .ref (b 4)]) := by
                            intro z hz9 H locs hP hS ls hl
                            refine nz_last (f := ml2.2.2.1) (k := (plX lx2 (fun j => lowN (mt.1 (k + j))) y)) (v := z) (ws' := wM b cs mt (ml2.1, ml2.2.1, va_up ml2.2.2.1 ((plX lx2 (fun j => lowN (mt.1 (k + j))) y)) z, ml2.2.2.2.1, ml2.2.2.2.2) mr mk) hx hb hK hP (wM_D hb2) hS 4 2 rfl rfl (by omega) (by decide) dX6_learn_132 rfl (fun H locs hP hS => ?_)
                            refine lv_iinc (v := nI (c2 + 1)) (lv' := [(2, .int (nI (c2 + 1))), (0, .ref (b 0)), (1, .int (nI (w1))), (3, .int (nI (k2)))]) hx hb dX6_learn_133 hl (k := 2) rfl (nz_inc1 _) (by decide) rfl (fun ls hl => ?_)
                            refine lv_goto (tgt := 160) hx hb dX6_learn_136 (by decide) ?_
                            exact join2 (lxAdd lx2 (plX lx2 (fun j => lowN (mt.1 (k + j))) y) w1) ((ml2.1, ml2.2.1, va_up ml2.2.2.1 ((plX lx2 (fun j => lowN (mt.1 (k + j))) y)) z, ml2.2.2.2.1, ml2.2.2.2.2)) (c2 + 1) (lxI_add hI2) (mlB_set (ml := ml2) hM9 (by omega)) (by have := rel_set (p := (plX lx2 (fun j => lowN (mt.1 (k + j))) y)) (wt := min (lx2.2.2.1 (plX lx2 (fun j => lowN (mt.1 (k + j))) y) + w1) 1000000000000) hRl; rw [hz9]; exact this) (by rw [useX_pos c_75, hb1t]; exact ⟨rfl, rfl⟩) H locs hP hS ls (lv_sub hl [1, 2, 0, 3] rfl)
                          refine lv_aload_n hx hb dX6_learn_93 rfl (lv_at hl 2 rfl) ?_
                          refine va_get (D := D) (ci := 6) (v := .ref (b 4)) (C := RX6) (T := TX6) (N := 15) hx hb hts hinX6 hown hK hP 0 rfl rfl 6 (by decide) (hts (.fieldLink RX6 20 "TypoSuggesterModel" "weights" "[J") (by decide +kernel)) (fun _ h9 => h9) rfl dX6_learn_94 ?_
                          refine lv_iload hx hb dX6_learn_97 (lv_at hl 0 rfl) ?_
                          refine lv_aload_n hx hb dX6_learn_99 rfl (lv_at hl 2 rfl) ?_
                          refine va_get (D := D) (ci := 6) (v := .ref (b 4)) (C := RX6) (T := TX6) (N := 15) hx hb hts hinX6 hown hK hP 0 rfl rfl 6 (by decide) (hts (.fieldLink RX6 20 "TypoSuggesterModel" "weights" "[J") (by decide +kernel)) (fun _ h9 => h9) rfl dX6_learn_100 ?_
                          refine lv_iload hx hb dX6_learn_103 (lv_at hl 0 rfl) ?_
                          refine nz_lald (f := ml2.2.2.1) (k := (plX lx2 (fun j => lowN (mt.1 (k + j))) y)) hx hb hK hP 4 2 rfl rfl (by omega) (by decide) dX6_learn_105 ?_
                          refine lv_iload_n hx hb dX6_learn_106 rfl (lv_at hl 3 rfl) ?_
                          refine nz_i2l hx hb dX6_learn_107 (by omega) ?_
                          refine nz_ladd (a := ml2.2.2.1 ((plX lx2 (fun j => lowN (mt.1 (k + j))) y))) (b := w1) hx hb dX6_learn_108 ?_
                          refine lv_ldc2 (v := lN (1000000000000)) hx hb hown (hts (.constantLong RX6 80 (1000000000000)) (by decide +kernel)) dX6_learn_109 ?_
                          refine W.lcmp hx hb dX6_learn_112 ?_
                          refine nz_lle (a := ml2.2.2.1 ((plX lx2 (fun j => lowN (mt.1 (k + j))) y)) + w1) (b := 1000000000000) (tgt := 122) hx hb dX6_learn_113 (by decide) (by omega) (by omega) (fun c_113 => ?_) (fun c_113 => ?_)
                          · refine lv_aload_n hx hb dX6_learn_122 rfl (lv_at hl 2 rfl) ?_
                            refine va_get (D := D) (ci := 6) (v := .ref (b 4)) (C := RX6) (T := TX6) (N := 15) hx hb hts hinX6 hown hK hP 0 rfl rfl 6 (by decide) (hts (.fieldLink RX6 20 "TypoSuggesterModel" "weights" "[J") (by decide +kernel)) (fun _ h9 => h9) rfl dX6_learn_123 ?_
                            refine lv_iload hx hb dX6_learn_126 (lv_at hl 0 rfl) ?_
                            refine nz_lald (f := ml2.2.2.1) (k := (plX lx2 (fun j => lowN (mt.1 (k + j))) y)) hx hb hK hP 4 2 rfl rfl (by omega) (by decide) dX6_learn_128 ?_
                            refine lv_iload_n hx hb dX6_learn_129 rfl (lv_at hl 3 rfl) ?_
                            refine nz_i2l hx hb dX6_learn_130 (by omega) ?_
                            refine nz_ladd (a := ml2.2.2.1 ((plX lx2 (fun j => lowN (mt.1 (k + j))) y))) (b := w1) hx hb dX6_learn_131 ?_
                            exact join3 (ml2.2.2.1 ((plX lx2 (fun j => lowN (mt.1 (k + j))) y)) + w1) (by omega) H locs hP hS ls (lv_sub hl [2, 3, 4, 5] rfl)
                          · refine lv_ldc2 (v := lN (1000000000000)) hx hb hown (hts (.constantLong RX6 80 (1000000000000)) (by decide +kernel)) dX6_learn_116 ?_
                            refine lv_goto (tgt := 132) hx hb dX6_learn_119 (by decide) ?_
                            exact join3 1000000000000 (by omega) H locs hP hS ls (lv_sub hl [2, 3, 4, 5] rfl)
                    refine lv_iload_n hx hb dX6_learn_53 rfl (lv_at hl 3 rfl) ?_
                    refine lv_iload hx hb dX6_learn_54 (lv_at hl 4 rfl) ?_
                    refine nz_isub (a := k2) (b := k) hx hb dX6_learn_56 (by omega) ?_
                    refine lv_bipush (v := nI 24) hx hb dX6_learn_57 (by decide +kernel) ?_
                    refine nz_cle (a := k2 - k) (b := 24) (tgt := 67) hx hb dX6_learn_59 (by decide) (by omega) (by omega) (fun c_59 => ?_) (fun c_59 => ?_)
                    · refine lv_iload_n hx hb dX6_learn_67 rfl (lv_at hl 3 rfl) ?_
                      refine lv_iload hx hb dX6_learn_68 (lv_at hl 4 rfl) ?_
                      refine nz_isub (a := k2) (b := k) hx hb dX6_learn_70 (by omega) ?_
                      exact join (k2 - k) (by omega) H locs hP hS ls (lv_sub hl [0, 1, 2, 3, 4] rfl)
                    · refine lv_bipush (v := nI 24) hx hb dX6_learn_62 (by decide +kernel) ?_
                      refine lv_goto (tgt := 71) hx hb dX6_learn_64 (by decide) ?_
                      exact join 24 (by omega) H locs hP hS ls (lv_sub hl [0, 1, 2, 3, 4] rfl)
                  · refine lv_iinc (v := nI (k2 + 1)) (lv' := [(3, .int (nI (k2 + 1))), (0, .ref (b 0)), (1, .int (nI (w1))), (2, .int (nI (c2))), (4, .int (nI (k)))]) hx hb dX6_learn_47 hl (k := 3) rfl (nz_inc1 _) (by decide) rfl (fun ls hl => ?_)
                    refine lv_goto (tgt := 27) hx hb dX6_learn_50 (by decide) ?_
                    exact ih2 (k2 + 1) (by omega) (by omega) (fun j hj => by rcases Nat.lt_or_ge j (k2 - k) with h | h; exact hlt j h; rw [show k + j = k2 by omega]; exact of_decide_eq_true c_44) (by rw [← hf2, show mt.2 - k2 = (mt.2 - (k2 + 1)) + 1 by omega, lrn_1 (lo := fun i => lowN (mt.1 i)) (i := k2) (of_decide_eq_true c_44), show k2 + 1 - k = k2 - k + 1 by omega]) (by omega) H locs hP hS ls (lv_sub hl [1, 2, 3, 0, 4] rfl)
            exact loop2 (mt.2 - k + 1) k (Nat.le_refl _) (by omega) (fun j h => absurd h (by omega)) (by rw [Nat.sub_self]; exact hfin.1 (by omega)) (Nat.lt_succ_self _) H locs hP hS ls (lv_sub hl [1, 2, 3, 4, 0] rfl)
      exact loop (mt.2 + 1 - 0 + 1) 0 lx ml 0 (Nat.zero_le _) hI hM hRl (Nat.le_refl _) (⟨fun _ => rfl, fun h => absurd h (Nat.not_lt_zero _)⟩) (Nat.lt_succ_self _) H locs hP hS ls (lv_sub hl [2, 3, 1, 0] rfl)
    · have hno : ¬ lrnOk (nI w1) := fun h => by have := h.2; rw [nI_clamp hw1] at this; omega
      refine lv_iconst (v := (-1)) hx hb dX6_learn_10 (by decide +kernel) ?_
      have hok : dB (lrnOk (nI w1)) = false := dB_f hno
      rw [show lrnI lx mt (nI w1) = -1 by unfold lrnI; rw [hok]; rfl, show lrnL lx mt (nI w1) = lx by unfold lrnL; rw [hok]; rfl, show lrnT mt (nI w1) = mt.2 by unfold lrnT; rw [hok]; rfl] at hret
      exact hret 11 ls H locs dX6_learn_11 ⟨_, ⟨hM, hRl⟩, hP⟩ hS
