/-! The Lexicon's methods that write. -/
def insSt (st : Nat → Nat) (p len n : Nat) : Nat → Nat := fun j => if p < j ∧ j ≤ n + 1 then st (j - 1) + len else st j
def delSt (st : Nat → Nat) (p len n : Nat) : Nat → Nat := fun j => if p < j ∧ j < n then st (j + 1) - len else st j
def lxIns (lx : (Nat → Nat) × (Nat → Nat) × (Nat → Nat) × Nat) (wd : (Nat → Nat) × Nat) (p wt : Nat) : (Nat → Nat) × (Nat → Nat) × (Nat → Nat) × Nat :=
  (va_cpy wd.1 (va_cpy lx.1 lx.1 (lx.2.1 p) (lx.2.1 p + wd.2) (lx.2.1 lx.2.2.2 - lx.2.1 p)) 0 (lx.2.1 p) wd.2, insSt lx.2.1 p wd.2 lx.2.2.2, va_up (va_cpy lx.2.2.1 lx.2.2.1 p (p + 1) (lx.2.2.2 - p)) p wt, lx.2.2.2 + 1)
def lxDel (lx : (Nat → Nat) × (Nat → Nat) × (Nat → Nat) × Nat) (p : Nat) : (Nat → Nat) × (Nat → Nat) × (Nat → Nat) × Nat :=
  (va_cpy lx.1 lx.1 (lx.2.1 (p + 1)) (lx.2.1 p) (lx.2.1 lx.2.2.2 - lx.2.1 (p + 1)), delSt lx.2.1 p (lx.2.1 (p + 1) - lx.2.1 p) lx.2.2.2, va_cpy lx.2.2.1 lx.2.2.1 (p + 1) p (lx.2.2.2 - p - 1), lx.2.2.2 - 1)
def lxAdd (lx : (Nat → Nat) × (Nat → Nat) × (Nat → Nat) × Nat) (p wt : Nat) : (Nat → Nat) × (Nat → Nat) × (Nat → Nat) × Nat := (lx.1, lx.2.1, va_up lx.2.2.1 p (min (lx.2.2.1 p + wt) 1000000000000), lx.2.2.2)
def mI (k : Nat) : Int32 := nI k + Int32.ofInt (-1)
theorem mI_pos {k : Nat} (h : 0 < k) : mI k = nI (k - 1) := nz_incm h
theorem mI_0 : mI 0 < 0 := by decide +kernel
theorem mI_lt {k i : Nat} (hk : k < 2 ^ 31) (hi : i < 2 ^ 31) : mI k < nI i ↔ k ≤ i := by
  rcases Nat.eq_zero_or_pos k with h | h
  · subst h
    refine ⟨fun _ => Nat.zero_le _, fun _ => ?_⟩
    have h1 := nI_pos' hi
    exact Int32.lt_of_lt_of_le mI_0 h1
  · rw [mI_pos h, nI_ltI (by omega) hi]
    omega
theorem insSt_0 (st : Nat → Nat) (len n : Nat) : insSt st (n + 1) len n = st := by
  funext j
  unfold insSt
  rw [if_neg (by omega)]
theorem insSt_le {st : Nat → Nat} {p len n j : Nat} (h : j ≤ p) : insSt st p len n j = st j := by
  unfold insSt
  rw [if_neg (by omega)]
theorem insSt_step {st : Nat → Nat} {k len n : Nat} (h : 0 < k) (h2 : k ≤ n + 1) : va_up (insSt st k len n) (k - 1 + 1) (insSt st k len n (k - 1) + len) = insSt st (k - 1) len n := by
  funext j
  rw [insSt_le (by omega)]
  unfold va_up insSt
  by_cases e : j = k - 1 + 1
  · rw [if_pos e, if_pos (by omega), e]
    rfl
  · rw [if_neg e]
    by_cases q : k < j ∧ j ≤ n + 1
    · rw [if_pos q, if_pos (by omega)]
    · rw [if_neg q, if_neg (by omega)]
theorem delSt_0 (st : Nat → Nat) (p len : Nat) : delSt st p len (p + 1) = st := by
  funext j
  unfold delSt
  rw [if_neg (by omega)]
theorem delSt_ge {st : Nat → Nat} {p len n j : Nat} (h : n ≤ j) : delSt st p len n j = st j := by
  unfold delSt
  rw [if_neg (by omega)]
theorem delSt_step {st : Nat → Nat} {p len k : Nat} (h : p < k) : va_up (delSt st p len k) k (delSt st p len k (k + 1) - len) = delSt st p len (k + 1) := by
  funext j
  rw [delSt_ge (by omega)]
  unfold va_up delSt
  by_cases e : j = k
  · rw [if_pos e, if_pos (by omega), e]
  · rw [if_neg e]
    by_cases q : p < j ∧ j < k
    · rw [if_pos q, if_pos (by omega)]
    · rw [if_neg q, if_neg (by omega)]
abbrev rmX0_insert : Room := { frames := 1, cells := 0, slots := 0, locals := 30 }
set_option maxHeartbeats 4000000 in
set_option maxRecDepth 100000 in
theorem mX0_insert (l : Launch) (D : va_G) (a : Nat → Nat) (cs : Nat → ClassId) (tp : (Nat → Int32) × Nat) (wd : (Nat → Nat) × Nat) (lx : (Nat → Nat) × (Nat → Nat) × (Nat → Nat) × Nat) (ro : Nat → Nat) (rs : (Nat → Nat) × (Nat → Nat) × (Nat → Nat) × (Nat → Nat) × (Nat → Nat) × Nat) (i : Nat) (wt : Nat) (bb : Bool) (ha : wInj a) (hB : LxB lx) (hW : WdB wd) (hi : i ≤ lx.2.2.2) (hwt : wt ≤ 1000000000000) (hbb : bb = true ↔ (lx.2.2.2 < 600 ∧ lx.2.1 lx.2.2.2 + wd.2 ≤ 6000)) : Met l yX0_insert wsX0_insert rmX0_insert (wdP D vwCl (wX a cs tp wd lx ro rs) (tyX cs) [.ref (a 3), .int (nI (i)), .ref (a 2), .long (lN (wt))]) (wrQ (some (.int (bI (bb)))) (fun H => va_P D vwCl (wX a cs tp wd (bif bb then lxIns lx wd i wt else lx) ro rs) H) (inX a)) 0 0 (inX a) := by
  obtain ⟨hB1, hB2, hB3, hB4, hB5⟩ := id hB
  obtain ⟨hW1, hW2⟩ := id hW
  have hmo : ∀ k, k ≤ lx.2.2.2 → lx.2.1 k ≤ lx.2.1 lx.2.2.2 := fun k hk => lx_mono hB k _ hk (Nat.le_refl _)
  have hsz := hB3 lx.2.2.2
  have hmi := hmo i hi
  refine nz_metWi (by decide) rfl (Nat.le_of_ble_eq_true rfl) (bI_nar _) ?_
  intro p e s m args below meth c Q hx hb hml hts hown hP hK hret ls hl
  have hl : lv_has ls 7 [(0, .ref (a 3)), (1, .int (nI (i))), (2, .ref (a 2)), (3, .long (lN (wt)))] := hl
  have hown : s.vm.findClass RX0 = some m.cls := hown
  have hinX0 : ∀ w ∈ u_ws RX0 TX0 4, w ∈ wsX0_insert := by decide +kernel
  have hinX4 : ∀ w ∈ u_ws RX4 TX4 2, w ∈ wsX0_insert := by decide +kernel
  have hS : va_S (inX a) s.heap s.heap [] := va_S.rf
  obtain ⟨H, hH⟩ : ∃ H, H = s.heap := ⟨_, rfl⟩
  obtain ⟨locs, hlocs⟩ : ∃ locs : List Loc, locs = [] := ⟨_, rfl⟩
  have hP : va_P D vwCl (wX a cs tp wd lx ro rs) H := hH ▸ hP
  have hS : va_S (inX a) s.heap H locs := by rw [hH, hlocs]; exact va_S.rf
  suffices hgo : W p l e rmX0_insert s m args below meth c H locs 0 0 Q (F0 m 0 ls []) by rw [hH, hlocs] at hgo; exact hgo
  clear hH hlocs
  refine lv_aload_n hx hb dX0_insert_0 rfl (lv_at hl 0 rfl) ?_
  refine va_get (D := D) (ci := 0) (v := .int (nI (lx.2.2.2))) (C := RX0) (T := TX0) (N := 4) hx hb hts hinX0 hown hK hP 3 rfl rfl 3 (by decide) (hts (.fieldLink RX0 23 "TypoSuggester$Lexicon" "count" "I") (by decide +kernel)) (fun _ h9 => h9) rfl dX0_insert_1 ?_
  refine lv_sipush (v := nI 600) hx hb dX0_insert_4 (by decide +kernel) ?_
  refine nz_cge (a := lx.2.2.2) (b := 600) (tgt := 25) hx hb dX0_insert_7 (by decide) (by omega) (by omega) (fun c_7 => ?_) (fun c_7 => ?_)
  · refine lv_iconst (v := nI 0) hx hb dX0_insert_25 (by decide +kernel) ?_
    have hbv : bb = false := by cases bb with | false => rfl | true => exact absurd (hbb.mp rfl) (by omega)
    subst hbv
    refine nz_top bI_f ?_
    exact hret 26 ls H locs dX0_insert_26 hP hS
  · refine lv_aload_n hx hb dX0_insert_10 rfl (lv_at hl 0 rfl) ?_
    refine nz_callR (va_runV (As := []) (rest := []) ⟨hx, hb, hml, hown, hts⟩ (mX0_size l D a cs tp wd lx ro rs hB) (cwV 0 hts gX0_insert_X0_size rfl rfl rfl (by decide +kernel) ⟨Nat.le_of_ble_eq_true rfl, Nat.le_of_ble_eq_true rfl⟩) (nz_preV (ci := 0) (q0 := 3) hK hP rfl rfl) rfl rfl hl.1 rfl (lv_room (Nat.le_of_ble_eq_true rfl)) dX0_insert_11 ⟨Nat.zero_le _, Nat.zero_le _⟩) ?_
    refine lv_aload_n hx hb dX0_insert_14 rfl (lv_at hl 2 rfl) ?_
    refine va_get (D := D) (ci := 4) (v := .int (nI (wd.2))) (C := RX4) (T := TX4) (N := 2) hx hb hts hinX4 hown hK hP 2 rfl rfl 1 (by decide) (hts (.fieldLink RX0 39 "TypoSuggester$Word" "length" "I") (by decide +kernel)) (fun _ h9 => h9) rfl dX0_insert_15 ?_
    refine nz_iadd (a := lx.2.1 lx.2.2.2) (b := wd.2) hx hb dX0_insert_18 ?_
    refine lv_sipush (v := nI 6000) hx hb dX0_insert_19 (by decide +kernel) ?_
    refine nz_cle (a := lx.2.1 lx.2.2.2 + wd.2) (b := 6000) (tgt := 27) hx hb dX0_insert_22 (by decide) (by omega) (by omega) (fun c_22 => ?_) (fun c_22 => ?_)
    · refine lv_aload_n hx hb dX0_insert_27 rfl (lv_at hl 0 rfl) ?_
      refine va_get (D := D) (ci := 0) (v := .ref (a 9)) (C := RX0) (T := TX0) (N := 4) hx hb hts hinX0 hown hK hP 3 rfl rfl 1 (by decide) (hts (.fieldLink RX0 15 "TypoSuggester$Lexicon" "starts" "[I") (by decide +kernel)) (fun _ h9 => h9) rfl dX0_insert_28 ?_
      refine lv_iload_n hx hb dX0_insert_31 rfl (lv_at hl 1 rfl) ?_
      refine nz_iald (f := lx.2.1) (k := i) hx hb hK hP 9 1 rfl rfl (by omega) (by decide) dX0_insert_32 ?_
      refine lv_istore (lv' := [(5, .int (nI (lx.2.1 i))), (0, .ref (a 3)), (1, .int (nI (i))), (2, .ref (a 2)), (3, .long (lN (wt)))]) hx hb dX0_insert_33 hl (by decide) rfl (fun ls hl => ?_)
      refine lv_aload_n hx hb dX0_insert_35 rfl (lv_at hl 1 rfl) ?_
      refine va_get (D := D) (ci := 0) (v := .ref (a 8)) (C := RX0) (T := TX0) (N := 4) hx hb hts hinX0 hown hK hP 3 rfl rfl 0 (by decide) (hts (.fieldLink RX0 9 "TypoSuggester$Lexicon" "letters" "[B") (by decide +kernel)) (fun _ h9 => h9) rfl dX0_insert_36 ?_
      refine lv_iload hx hb dX0_insert_39 (lv_at hl 0 rfl) ?_
      refine lv_aload_n hx hb dX0_insert_41 rfl (lv_at hl 1 rfl) ?_
      refine va_get (D := D) (ci := 0) (v := .ref (a 8)) (C := RX0) (T := TX0) (N := 4) hx hb hts hinX0 hown hK hP 3 rfl rfl 0 (by decide) (hts (.fieldLink RX0 9 "TypoSuggester$Lexicon" "letters" "[B") (by decide +kernel)) (fun _ h9 => h9) rfl dX0_insert_42 ?_
      refine lv_iload hx hb dX0_insert_45 (lv_at hl 0 rfl) ?_
      refine lv_aload_n hx hb dX0_insert_47 rfl (lv_at hl 3 rfl) ?_
      refine va_get (D := D) (ci := 4) (v := .int (nI (wd.2))) (C := RX4) (T := TX4) (N := 2) hx hb hts hinX4 hown hK hP 2 rfl rfl 1 (by decide) (hts (.fieldLink RX0 39 "TypoSuggester$Word" "length" "I") (by decide +kernel)) (fun _ h9 => h9) rfl dX0_insert_48 ?_
      refine nz_iadd (a := lx.2.1 i) (b := wd.2) hx hb dX0_insert_51 ?_
      refine lv_aload_n hx hb dX0_insert_52 rfl (lv_at hl 1 rfl) ?_
      refine nz_callR (va_runV (As := []) (rest := [.int (nI (lx.2.1 i + wd.2)), .ref (a 8), .int (nI (lx.2.1 i)), .ref (a 8)]) ⟨hx, hb, hml, hown, hts⟩ (mX0_size l D a cs tp wd lx ro rs hB) (cwV 0 hts gX0_insert_X0_size rfl rfl rfl (by decide +kernel) ⟨Nat.le_of_ble_eq_true rfl, Nat.le_of_ble_eq_true rfl⟩) (nz_preV (ci := 0) (q0 := 3) hK hP rfl rfl) rfl rfl hl.1 rfl (lv_room (Nat.le_of_ble_eq_true rfl)) dX0_insert_53 ⟨Nat.zero_le _, Nat.zero_le _⟩) ?_
      refine lv_iload hx hb dX0_insert_56 (lv_at hl 0 rfl) ?_
      refine nz_isub (a := lx.2.1 lx.2.2.2) (b := lx.2.1 i) hx hb dX0_insert_58 (by omega) ?_
      refine nz_copyi (ws' := wX a cs tp wd (va_cpy lx.1 lx.1 (lx.2.1 i) (lx.2.1 i + wd.2) ((lx.2.1 lx.2.2.2) - (lx.2.1 i)), lx.2.1, lx.2.2.1, lx.2.2.2) ro rs) (f := lx.1) (g := lx.1) (sp := lx.2.1 i) (dp := lx.2.1 i + wd.2) (n := (lx.2.1 lx.2.2.2) - (lx.2.1 i)) hx hb (hml.trans hl.1.symm) hown (hts (.methodLink RX0 74 arraycopyName) (by decide +kernel)) (hts (.native arraycopyName) (by decide +kernel)) (hts (.static arraycopyName) (by decide +kernel)) (hts (.initialized "java/lang/System") (by decide +kernel)) hK hP (wX_D ha) hS 8 8 0 0 rfl rfl rfl rfl rfl (by omega) (by omega) (by omega) (by omega) (by omega) (fun j _ => (nz_b8 _ (hB4 _)).2.1) (Nat.le_of_ble_eq_true rfl) (Nat.le_of_ble_eq_true rfl) dX0_insert_59 rfl (fun H locs hP hS => ?_)
      refine lv_aload_n hx hb dX0_insert_62 rfl (lv_at hl 3 rfl) ?_
      refine va_get (D := D) (ci := 4) (v := .ref (a 7)) (C := RX4) (T := TX4) (N := 2) hx hb hts hinX4 hown hK hP 2 rfl rfl 0 (by decide) (hts (.fieldLink RX0 44 "TypoSuggester$Word" "letters" "[B") (by decide +kernel)) (fun _ h9 => h9) rfl dX0_insert_63 ?_
      refine lv_iconst (v := nI 0) hx hb dX0_insert_66 (by decide +kernel) ?_
      refine lv_aload_n hx hb dX0_insert_67 rfl (lv_at hl 1 rfl) ?_
      refine va_get (D := D) (ci := 0) (v := .ref (a 8)) (C := RX0) (T := TX0) (N := 4) hx hb hts hinX0 hown hK hP 3 rfl rfl 0 (by decide) (hts (.fieldLink RX0 9 "TypoSuggester$Lexicon" "letters" "[B") (by decide +kernel)) (fun _ h9 => h9) rfl dX0_insert_68 ?_
      refine lv_iload hx hb dX0_insert_71 (lv_at hl 0 rfl) ?_
      refine lv_aload_n hx hb dX0_insert_73 rfl (lv_at hl 3 rfl) ?_
      refine va_get (D := D) (ci := 4) (v := .int (nI (wd.2))) (C := RX4) (T := TX4) (N := 2) hx hb hts hinX4 hown hK hP 2 rfl rfl 1 (by decide) (hts (.fieldLink RX0 39 "TypoSuggester$Word" "length" "I") (by decide +kernel)) (fun _ h9 => h9) rfl dX0_insert_74 ?_
      refine nz_copyi (ws' := wX a cs tp wd (va_cpy wd.1 (va_cpy lx.1 lx.1 (lx.2.1 i) (lx.2.1 i + wd.2) ((lx.2.1 lx.2.2.2) - (lx.2.1 i))) 0 (lx.2.1 i) wd.2, lx.2.1, lx.2.2.1, lx.2.2.2) ro rs) (f := wd.1) (g := va_cpy lx.1 lx.1 (lx.2.1 i) (lx.2.1 i + wd.2) ((lx.2.1 lx.2.2.2) - (lx.2.1 i))) (sp := 0) (dp := lx.2.1 i) (n := wd.2) hx hb (hml.trans hl.1.symm) hown (hts (.methodLink RX0 74 arraycopyName) (by decide +kernel)) (hts (.native arraycopyName) (by decide +kernel)) (hts (.static arraycopyName) (by decide +kernel)) (hts (.initialized "java/lang/System") (by decide +kernel)) hK hP (wX_D ha) hS 7 8 0 0 rfl rfl rfl rfl rfl (by omega) (by omega) (by omega) (by omega) (by omega) (fun j _ => (nz_b8 _ (hW2 _)).2.1) (Nat.le_of_ble_eq_true rfl) (Nat.le_of_ble_eq_true rfl) dX0_insert_77 rfl (fun H locs hP hS => ?_)
      refine lv_aload_n hx hb dX0_insert_80 rfl (lv_at hl 1 rfl) ?_
      refine va_get (D := D) (ci := 0) (v := .ref (a 10)) (C := RX0) (T := TX0) (N := 4) hx hb hts hinX0 hown hK hP 3 rfl rfl 2 (by decide) (hts (.fieldLink RX0 19 "TypoSuggester$Lexicon" "weights" "[J") (by decide +kernel)) (fun _ h9 => h9) rfl dX0_insert_81 ?_
      refine lv_iload_n hx hb dX0_insert_84 rfl (lv_at hl 2 rfl) ?_
      refine lv_aload_n hx hb dX0_insert_85 rfl (lv_at hl 1 rfl) ?_
      refine va_get (D := D) (ci := 0) (v := .ref (a 10)) (C := RX0) (T := TX0) (N := 4) hx hb hts hinX0 hown hK hP 3 rfl rfl 2 (by decide) (hts (.fieldLink RX0 19 "TypoSuggester$Lexicon" "weights" "[J") (by decide +kernel)) (fun _ h9 => h9) rfl dX0_insert_86 ?_
      refine lv_iload_n hx hb dX0_insert_89 rfl (lv_at hl 2 rfl) ?_
      refine lv_iconst (v := nI 1) hx hb dX0_insert_90 (by decide +kernel) ?_
      refine nz_iadd (a := i) (b := 1) hx hb dX0_insert_91 ?_
      refine lv_aload_n hx hb dX0_insert_92 rfl (lv_at hl 1 rfl) ?_
      refine va_get (D := D) (ci := 0) (v := .int (nI (lx.2.2.2))) (C := RX0) (T := TX0) (N := 4) hx hb hts hinX0 hown hK hP 3 rfl rfl 3 (by decide) (hts (.fieldLink RX0 23 "TypoSuggester$Lexicon" "count" "I") (by decide +kernel)) (fun _ h9 => h9) rfl dX0_insert_93 ?_
      refine lv_iload_n hx hb dX0_insert_96 rfl (lv_at hl 2 rfl) ?_
      refine nz_isub (a := lx.2.2.2) (b := i) hx hb dX0_insert_97 (by omega) ?_
      refine nz_copyl (ws' := wX a cs tp wd (va_cpy wd.1 (va_cpy lx.1 lx.1 (lx.2.1 i) (lx.2.1 i + wd.2) ((lx.2.1 lx.2.2.2) - (lx.2.1 i))) 0 (lx.2.1 i) wd.2, lx.2.1, va_cpy lx.2.2.1 lx.2.2.1 i (i + 1) (lx.2.2.2 - i), lx.2.2.2) ro rs) (f := lx.2.2.1) (g := lx.2.2.1) (sp := i) (dp := i + 1) (n := lx.2.2.2 - i) hx hb (hml.trans hl.1.symm) hown (hts (.methodLink RX0 74 arraycopyName) (by decide +kernel)) (hts (.native arraycopyName) (by decide +kernel)) (hts (.static arraycopyName) (by decide +kernel)) (hts (.initialized "java/lang/System") (by decide +kernel)) hK hP (wX_D ha) hS 10 10 2 2 rfl rfl rfl rfl rfl (by omega) (by omega) (by omega) (by omega) (by omega) (fun _ _ => rfl) (Nat.le_of_ble_eq_true rfl) (Nat.le_of_ble_eq_true rfl) dX0_insert_98 rfl (fun H locs hP hS => ?_)
      refine lv_aload_n hx hb dX0_insert_101 rfl (lv_at hl 1 rfl) ?_
      refine va_get (D := D) (ci := 0) (v := .ref (a 10)) (C := RX0) (T := TX0) (N := 4) hx hb hts hinX0 hown hK hP 3 rfl rfl 2 (by decide) (hts (.fieldLink RX0 19 "TypoSuggester$Lexicon" "weights" "[J") (by decide +kernel)) (fun _ h9 => h9) rfl dX0_insert_102 ?_
      refine lv_iload_n hx hb dX0_insert_105 rfl (lv_at hl 2 rfl) ?_
      refine lv_lload_n hx hb dX0_insert_106 rfl (lv_at hl 4 rfl) ?_
      refine nz_last (f := va_cpy lx.2.2.1 lx.2.2.1 i (i + 1) (lx.2.2.2 - i)) (k := i) (v := wt) (ws' := wX a cs tp wd (va_cpy wd.1 (va_cpy lx.1 lx.1 (lx.2.1 i) (lx.2.1 i + wd.2) ((lx.2.1 lx.2.2.2) - (lx.2.1 i))) 0 (lx.2.1 i) wd.2, lx.2.1, va_up (va_cpy lx.2.2.1 lx.2.2.1 i (i + 1) (lx.2.2.2 - i)) i wt, lx.2.2.2) ro rs) hx hb hK hP (wX_D ha) hS 10 2 rfl rfl (by omega) (by decide) dX0_insert_107 rfl (fun H locs hP hS => ?_)
      refine lv_aload_n hx hb dX0_insert_108 rfl (lv_at hl 1 rfl) ?_
      refine va_get (D := D) (ci := 0) (v := .int (nI (lx.2.2.2))) (C := RX0) (T := TX0) (N := 4) hx hb hts hinX0 hown hK hP 3 rfl rfl 3 (by decide) (hts (.fieldLink RX0 23 "TypoSuggester$Lexicon" "count" "I") (by decide +kernel)) (fun _ h9 => h9) rfl dX0_insert_109 ?_
      refine lv_istore (lv' := [(6, .int (nI (lx.2.2.2))), (5, .int (nI (lx.2.1 i))), (0, .ref (a 3)), (1, .int (nI (i))), (2, .ref (a 2)), (3, .long (lN (wt)))]) hx hb dX0_insert_112 hl (by decide) rfl (fun ls hl => ?_)
      have hP : va_P D vwCl (wX a cs tp wd (va_cpy wd.1 (va_cpy lx.1 lx.1 (lx.2.1 i) (lx.2.1 i + wd.2) ((lx.2.1 lx.2.2.2) - (lx.2.1 i))) 0 (lx.2.1 i) wd.2, insSt lx.2.1 (lx.2.2.2 + 1) wd.2 lx.2.2.2, va_up (va_cpy lx.2.2.1 lx.2.2.1 i (i + 1) (lx.2.2.2 - i)) i wt, lx.2.2.2) ro rs) H := by rw [insSt_0]; exact hP
      have e_1 : (nI (lx.2.2.2)) = (mI (lx.2.2.2 + 1)) := (mI_pos (Nat.succ_pos _)).symm
      have hl : lv_has ls 7 [(6, .int (mI (lx.2.2.2 + 1))), (5, .int (nI (lx.2.1 i))), (0, .ref (a 3)), (1, .int (nI (i))), (2, .ref (a 2)), (3, .long (lN (wt)))] := by rw [← e_1]; exact hl
      have loop : ∀ (fuel : Nat) (k : Nat), (i ≤ k) → (k ≤ lx.2.2.2 + 1) → k < fuel → ∀ (H : Heap) (locs : List Loc), va_P D vwCl (wX a cs tp wd (va_cpy wd.1 (va_cpy lx.1 lx.1 (lx.2.1 i) (lx.2.1 i + wd.2) ((lx.2.1 lx.2.2.2) - (lx.2.1 i))) 0 (lx.2.1 i) wd.2, insSt lx.2.1 k wd.2 lx.2.2.2, va_up (va_cpy lx.2.2.1 lx.2.2.1 i (i + 1) (lx.2.2.2 - i)) i wt, lx.2.2.2) ro rs) H → va_S (inX a) s.heap H locs → ∀ ls : Array Slot, lv_has ls 7 [(0, .ref (a 3)), (1, .int (nI (i))), (2, .ref (a 2)), (6, .int (mI k))] → W p l e rmX0_insert s m args below meth c H locs 0 0 Q (F0 m 114 ls []) := by
        intro fuel
        induction fuel with
        | zero => intro k hk1 hk2 hf; exact absurd hf (Nat.not_lt_zero _)
        | succ fuel ih =>
          intro k hk1 hk2 hf H locs hP hS ls hl
          refine lv_iload hx hb dX0_insert_114 (lv_at hl 3 rfl) ?_
          refine lv_iload_n hx hb dX0_insert_116 rfl (lv_at hl 1 rfl) ?_
          refine lv_icmp_lt (tgt := 147) hx hb dX0_insert_117 (by decide) (fun c_117 => ?_) (fun c_117 => ?_)
          · have c_117 := (mI_lt (by omega) (by omega)).mp c_117
            refine lv_aload_n hx hb dX0_insert_147 rfl (lv_at hl 0 rfl) ?_
            refine lv_dup hx hb dX0_insert_148 rfl ?_
            refine va_get (D := D) (ci := 0) (v := .int (nI (lx.2.2.2))) (C := RX0) (T := TX0) (N := 4) hx hb hts hinX0 hown hK hP 3 rfl rfl 3 (by decide) (hts (.fieldLink RX0 23 "TypoSuggester$Lexicon" "count" "I") (by decide +kernel)) (fun _ h9 => h9) rfl dX0_insert_149 ?_
            refine lv_iconst (v := nI 1) hx hb dX0_insert_152 (by decide +kernel) ?_
            refine nz_iadd (a := lx.2.2.2) (b := 1) hx hb dX0_insert_153 ?_
            refine nz_put (D := D) (ci := 0) (v := .int (nI (lx.2.2.2 + 1))) (ty := .int) (ws' := wX a cs tp wd (va_cpy wd.1 (va_cpy lx.1 lx.1 (lx.2.1 i) (lx.2.1 i + wd.2) ((lx.2.1 lx.2.2.2) - (lx.2.1 i))) 0 (lx.2.1 i) wd.2, insSt lx.2.1 k wd.2 lx.2.2.2, va_up (va_cpy lx.2.2.1 lx.2.2.1 i (i + 1) (lx.2.2.2 - i)) i wt, lx.2.2.2 + 1) ro rs) (C := RX0) (T := TX0) (N := 4) hx hb hts hinX0 tyX0 tyX0_ok nmX0 hown hK hP (wX_D ha) hS 3 rfl rfl 3 (by decide) (hts (.fieldLink RX0 23 "TypoSuggester$Lexicon" "count" "I") (by decide +kernel)) (fun _ h9 => h9) rfl (by decide +kernel) rfl rfl (Nat.le_of_ble_eq_true rfl) dX0_insert_154 rfl (fun H locs hP hS => ?_)
            refine lv_iconst (v := nI 1) hx hb dX0_insert_157 (by decide +kernel) ?_
            rw [show k = i by omega] at hP
            have hbv : bb = true := hbb.mpr (by omega)
            subst hbv
            refine nz_top bI_t ?_
            exact hret 158 ls H locs dX0_insert_158 hP hS
          · have c_117 : i < k := Nat.lt_of_not_le (fun z => c_117 ((mI_lt (by omega) (by omega)).mpr z))
            have e_2 : (mI k) = (nI (k - 1)) := mI_pos (by omega)
            have hl : lv_has ls 7 [(0, .ref (a 3)), (1, .int (nI (i))), (2, .ref (a 2)), (6, .int (nI (k - 1)))] := by rw [← e_2]; exact hl
            refine lv_aload_n hx hb dX0_insert_120 rfl (lv_at hl 0 rfl) ?_
            refine va_get (D := D) (ci := 0) (v := .ref (a 9)) (C := RX0) (T := TX0) (N := 4) hx hb hts hinX0 hown hK hP 3 rfl rfl 1 (by decide) (hts (.fieldLink RX0 15 "TypoSuggester$Lexicon" "starts" "[I") (by decide +kernel)) (fun _ h9 => h9) rfl dX0_insert_121 ?_
            refine lv_iload hx hb dX0_insert_124 (lv_at hl 3 rfl) ?_
            refine lv_iconst (v := nI 1) hx hb dX0_insert_126 (by decide +kernel) ?_
            refine nz_iadd (a := k - 1) (b := 1) hx hb dX0_insert_127 ?_
            refine lv_aload_n hx hb dX0_insert_128 rfl (lv_at hl 0 rfl) ?_
            refine va_get (D := D) (ci := 0) (v := .ref (a 9)) (C := RX0) (T := TX0) (N := 4) hx hb hts hinX0 hown hK hP 3 rfl rfl 1 (by decide) (hts (.fieldLink RX0 15 "TypoSuggester$Lexicon" "starts" "[I") (by decide +kernel)) (fun _ h9 => h9) rfl dX0_insert_129 ?_
            refine lv_iload hx hb dX0_insert_132 (lv_at hl 3 rfl) ?_
            refine nz_iald (f := insSt lx.2.1 k wd.2 lx.2.2.2) (k := k - 1) hx hb hK hP 9 1 rfl rfl (by omega) (by decide) dX0_insert_134 ?_
            refine lv_aload_n hx hb dX0_insert_135 rfl (lv_at hl 2 rfl) ?_
            refine va_get (D := D) (ci := 4) (v := .int (nI (wd.2))) (C := RX4) (T := TX4) (N := 2) hx hb hts hinX4 hown hK hP 2 rfl rfl 1 (by decide) (hts (.fieldLink RX0 39 "TypoSuggester$Word" "length" "I") (by decide +kernel)) (fun _ h9 => h9) rfl dX0_insert_136 ?_
            refine nz_iadd (a := (insSt lx.2.1 k wd.2 lx.2.2.2) (k - 1)) (b := wd.2) hx hb dX0_insert_139 ?_
            refine nz_iast (f := insSt lx.2.1 k wd.2 lx.2.2.2) (k := k - 1 + 1) (v := (insSt lx.2.1 k wd.2 lx.2.2.2) (k - 1) + wd.2) (ws' := wX a cs tp wd (va_cpy wd.1 (va_cpy lx.1 lx.1 (lx.2.1 i) (lx.2.1 i + wd.2) ((lx.2.1 lx.2.2.2) - (lx.2.1 i))) 0 (lx.2.1 i) wd.2, va_up (insSt lx.2.1 k wd.2 lx.2.2.2) (k - 1 + 1) ((insSt lx.2.1 k wd.2 lx.2.2.2) (k - 1) + wd.2), va_up (va_cpy lx.2.2.1 lx.2.2.1 i (i + 1) (lx.2.2.2 - i)) i wt, lx.2.2.2) ro rs) hx hb hK hP (wX_D ha) hS 9 1 rfl rfl (by omega) (by decide) dX0_insert_140 rfl (fun H locs hP hS => ?_)
            have e_3 : va_up (insSt lx.2.1 k wd.2 lx.2.2.2) (k - 1 + 1) ((insSt lx.2.1 k wd.2 lx.2.2.2) (k - 1) + wd.2) = insSt lx.2.1 (k - 1) wd.2 lx.2.2.2 := insSt_step (by omega) (by omega)
            rw [e_3] at hP
            refine lv_iinc (v := mI (k - 1)) (lv' := [(6, .int (mI (k - 1))), (0, .ref (a 3)), (1, .int (nI (i))), (2, .ref (a 2))]) hx hb dX0_insert_141 hl (k := 3) rfl rfl (by decide) rfl (fun ls hl => ?_)
            refine lv_goto (tgt := 114) hx hb dX0_insert_144 (by decide) ?_
            exact ih (k - 1) (by omega) (by omega) (by omega) H locs hP hS ls (lv_sub hl [1, 2, 3, 0] rfl)
      exact loop ((lx.2.2.2 + 1) + 1) (lx.2.2.2 + 1) (by omega) (Nat.le_refl _) (Nat.lt_succ_self _) H locs hP hS ls (lv_sub hl [2, 3, 4, 0] rfl)
    · refine lv_iconst (v := nI 0) hx hb dX0_insert_25 (by decide +kernel) ?_
      have hbv : bb = false := by cases bb with | false => rfl | true => exact absurd (hbb.mp rfl) (by omega)
      subst hbv
      refine nz_top bI_f ?_
      exact hret 26 ls H locs dX0_insert_26 hP hS
abbrev rmX0_remove : Room := { frames := 1, cells := 0, slots := 0, locals := 30 }
set_option maxHeartbeats 4000000 in
set_option maxRecDepth 100000 in
theorem mX0_remove (l : Launch) (D : va_G) (a : Nat → Nat) (cs : Nat → ClassId) (tp : (Nat → Int32) × Nat) (wd : (Nat → Nat) × Nat) (lx : (Nat → Nat) × (Nat → Nat) × (Nat → Nat) × Nat) (ro : Nat → Nat) (rs : (Nat → Nat) × (Nat → Nat) × (Nat → Nat) × (Nat → Nat) × (Nat → Nat) × Nat) (i : Nat) (ha : wInj a) (hB : LxB lx) (hi : i < lx.2.2.2) : Met l yX0_remove wsX0_remove rmX0_remove (wdP D vwCl (wX a cs tp wd lx ro rs) (tyX cs) [.ref (a 3), .int (nI (i))]) (wrQ none (fun H => va_P D vwCl (wX a cs tp wd (lxDel lx i) ro rs) H) (inX a)) 0 0 (inX a) := by
  obtain ⟨hB1, hB2, hB3, hB4, hB5⟩ := id hB
  have hmo : ∀ k, k ≤ lx.2.2.2 → lx.2.1 k ≤ lx.2.1 lx.2.2.2 := fun k hk => lx_mono hB k _ hk (Nat.le_refl _)
  have hsz := hB3 lx.2.2.2
  have hm1 := hmo i (by omega)
  have hm2 := hmo (i + 1) (by omega)
  have hm3 := hB2 i hi
  refine nz_metWv (by decide) rfl (Nat.le_of_ble_eq_true rfl) ?_
  intro p e s m args below meth c Q hx hb hml hts hown hP hK hret ls hl
  have hl : lv_has ls 5 [(0, .ref (a 3)), (1, .int (nI (i)))] := hl
  have hown : s.vm.findClass RX0 = some m.cls := hown
  have hinX0 : ∀ w ∈ u_ws RX0 TX0 4, w ∈ wsX0_remove := by decide +kernel
  have hS : va_S (inX a) s.heap s.heap [] := va_S.rf
  obtain ⟨H, hH⟩ : ∃ H, H = s.heap := ⟨_, rfl⟩
  obtain ⟨locs, hlocs⟩ : ∃ locs : List Loc, locs = [] := ⟨_, rfl⟩
  have hP : va_P D vwCl (wX a cs tp wd lx ro rs) H := hH ▸ hP
  have hS : va_S (inX a) s.heap H locs := by rw [hH, hlocs]; exact va_S.rf
  suffices hgo : W p l e rmX0_remove s m args below meth c H locs 0 0 Q (F0 m 0 ls []) by rw [hH, hlocs] at hgo; exact hgo
  clear hH hlocs
  refine lv_aload_n hx hb dX0_remove_0 rfl (lv_at hl 0 rfl) ?_
  refine lv_iload_n hx hb dX0_remove_1 rfl (lv_at hl 1 rfl) ?_
  refine nz_callR (va_runV (As := [.int (nI (i))]) (rest := []) ⟨hx, hb, hml, hown, hts⟩ (mX0_lengthOf l D a cs tp wd lx ro rs i hB hi) (cwV 1 hts gX0_remove_X0_lengthOf rfl rfl rfl (by decide +kernel) ⟨Nat.le_of_ble_eq_true rfl, Nat.le_of_ble_eq_true rfl⟩) (nz_preV (ci := 0) (q0 := 3) hK hP rfl rfl) rfl rfl hl.1 rfl (lv_room (Nat.le_of_ble_eq_true rfl)) dX0_remove_2 ⟨Nat.zero_le _, Nat.zero_le _⟩) ?_
  refine lv_istore_n (lv' := [(2, .int (nI (lx.2.1 (i + 1) - lx.2.1 i))), (0, .ref (a 3)), (1, .int (nI (i)))]) hx hb dX0_remove_5 rfl hl (by decide) rfl (fun ls hl => ?_)
  refine lv_aload_n hx hb dX0_remove_6 rfl (lv_at hl 1 rfl) ?_
  refine va_get (D := D) (ci := 0) (v := .ref (a 9)) (C := RX0) (T := TX0) (N := 4) hx hb hts hinX0 hown hK hP 3 rfl rfl 1 (by decide) (hts (.fieldLink RX0 15 "TypoSuggester$Lexicon" "starts" "[I") (by decide +kernel)) (fun _ h9 => h9) rfl dX0_remove_7 ?_
  refine lv_iload_n hx hb dX0_remove_10 rfl (lv_at hl 2 rfl) ?_
  refine lv_iconst (v := nI 1) hx hb dX0_remove_11 (by decide +kernel) ?_
  refine nz_iadd (a := i) (b := 1) hx hb dX0_remove_12 ?_
  refine nz_iald (f := lx.2.1) (k := i + 1) hx hb hK hP 9 1 rfl rfl (by omega) (by decide) dX0_remove_13 ?_
  refine lv_istore_n (lv' := [(3, .int (nI (lx.2.1 (i + 1)))), (2, .int (nI (lx.2.1 (i + 1) - lx.2.1 i))), (0, .ref (a 3)), (1, .int (nI (i)))]) hx hb dX0_remove_14 rfl hl (by decide) rfl (fun ls hl => ?_)
  refine lv_aload_n hx hb dX0_remove_15 rfl (lv_at hl 2 rfl) ?_
  refine va_get (D := D) (ci := 0) (v := .ref (a 8)) (C := RX0) (T := TX0) (N := 4) hx hb hts hinX0 hown hK hP 3 rfl rfl 0 (by decide) (hts (.fieldLink RX0 9 "TypoSuggester$Lexicon" "letters" "[B") (by decide +kernel)) (fun _ h9 => h9) rfl dX0_remove_16 ?_
  refine lv_iload_n hx hb dX0_remove_19 rfl (lv_at hl 0 rfl) ?_
  refine lv_aload_n hx hb dX0_remove_20 rfl (lv_at hl 2 rfl) ?_
  refine va_get (D := D) (ci := 0) (v := .ref (a 8)) (C := RX0) (T := TX0) (N := 4) hx hb hts hinX0 hown hK hP 3 rfl rfl 0 (by decide) (hts (.fieldLink RX0 9 "TypoSuggester$Lexicon" "letters" "[B") (by decide +kernel)) (fun _ h9 => h9) rfl dX0_remove_21 ?_
  refine lv_aload_n hx hb dX0_remove_24 rfl (lv_at hl 2 rfl) ?_
  refine va_get (D := D) (ci := 0) (v := .ref (a 9)) (C := RX0) (T := TX0) (N := 4) hx hb hts hinX0 hown hK hP 3 rfl rfl 1 (by decide) (hts (.fieldLink RX0 15 "TypoSuggester$Lexicon" "starts" "[I") (by decide +kernel)) (fun _ h9 => h9) rfl dX0_remove_25 ?_
  refine lv_iload_n hx hb dX0_remove_28 rfl (lv_at hl 3 rfl) ?_
  refine nz_iald (f := lx.2.1) (k := i) hx hb hK hP 9 1 rfl rfl (by omega) (by decide) dX0_remove_29 ?_
  refine lv_aload_n hx hb dX0_remove_30 rfl (lv_at hl 2 rfl) ?_
  refine nz_callR (va_runV (As := []) (rest := [.int (nI (lx.2.1 i)), .ref (a 8), .int (nI (lx.2.1 (i + 1))), .ref (a 8)]) ⟨hx, hb, hml, hown, hts⟩ (mX0_size l D a cs tp wd lx ro rs hB) (cwV 0 hts gX0_remove_X0_size rfl rfl rfl (by decide +kernel) ⟨Nat.le_of_ble_eq_true rfl, Nat.le_of_ble_eq_true rfl⟩) (nz_preV (ci := 0) (q0 := 3) hK hP rfl rfl) rfl rfl hl.1 rfl (lv_room (Nat.le_of_ble_eq_true rfl)) dX0_remove_31 ⟨Nat.zero_le _, Nat.zero_le _⟩) ?_
  refine lv_iload_n hx hb dX0_remove_34 rfl (lv_at hl 0 rfl) ?_
  refine nz_isub (a := lx.2.1 lx.2.2.2) (b := lx.2.1 (i + 1)) hx hb dX0_remove_35 (by omega) ?_
  refine nz_copyi (ws' := wX a cs tp wd (va_cpy lx.1 lx.1 (lx.2.1 (i + 1)) (lx.2.1 i) ((lx.2.1 lx.2.2.2) - (lx.2.1 (i + 1))), lx.2.1, lx.2.2.1, lx.2.2.2) ro rs) (f := lx.1) (g := lx.1) (sp := lx.2.1 (i + 1)) (dp := lx.2.1 i) (n := (lx.2.1 lx.2.2.2) - (lx.2.1 (i + 1))) hx hb (hml.trans hl.1.symm) hown (hts (.methodLink RX0 74 arraycopyName) (by decide +kernel)) (hts (.native arraycopyName) (by decide +kernel)) (hts (.static arraycopyName) (by decide +kernel)) (hts (.initialized "java/lang/System") (by decide +kernel)) hK hP (wX_D ha) hS 8 8 0 0 rfl rfl rfl rfl rfl (by omega) (by omega) (by omega) (by omega) (by omega) (fun j _ => (nz_b8 _ (hB4 _)).2.1) (Nat.le_of_ble_eq_true rfl) (Nat.le_of_ble_eq_true rfl) dX0_remove_36 rfl (fun H locs hP hS => ?_)
  refine lv_aload_n hx hb dX0_remove_39 rfl (lv_at hl 2 rfl) ?_
  refine va_get (D := D) (ci := 0) (v := .ref (a 10)) (C := RX0) (T := TX0) (N := 4) hx hb hts hinX0 hown hK hP 3 rfl rfl 2 (by decide) (hts (.fieldLink RX0 19 "TypoSuggester$Lexicon" "weights" "[J") (by decide +kernel)) (fun _ h9 => h9) rfl dX0_remove_40 ?_
  refine lv_iload_n hx hb dX0_remove_43 rfl (lv_at hl 3 rfl) ?_
  refine lv_iconst (v := nI 1) hx hb dX0_remove_44 (by decide +kernel) ?_
  refine nz_iadd (a := i) (b := 1) hx hb dX0_remove_45 ?_
  refine lv_aload_n hx hb dX0_remove_46 rfl (lv_at hl 2 rfl) ?_
  refine va_get (D := D) (ci := 0) (v := .ref (a 10)) (C := RX0) (T := TX0) (N := 4) hx hb hts hinX0 hown hK hP 3 rfl rfl 2 (by decide) (hts (.fieldLink RX0 19 "TypoSuggester$Lexicon" "weights" "[J") (by decide +kernel)) (fun _ h9 => h9) rfl dX0_remove_47 ?_
  refine lv_iload_n hx hb dX0_remove_50 rfl (lv_at hl 3 rfl) ?_
  refine lv_aload_n hx hb dX0_remove_51 rfl (lv_at hl 2 rfl) ?_
  refine va_get (D := D) (ci := 0) (v := .int (nI (lx.2.2.2))) (C := RX0) (T := TX0) (N := 4) hx hb hts hinX0 hown hK hP 3 rfl rfl 3 (by decide) (hts (.fieldLink RX0 23 "TypoSuggester$Lexicon" "count" "I") (by decide +kernel)) (fun _ h9 => h9) rfl dX0_remove_52 ?_
  refine lv_iload_n hx hb dX0_remove_55 rfl (lv_at hl 3 rfl) ?_
  refine nz_isub (a := lx.2.2.2) (b := i) hx hb dX0_remove_56 (by omega) ?_
  refine lv_iconst (v := nI 1) hx hb dX0_remove_57 (by decide +kernel) ?_
  refine nz_isub (a := lx.2.2.2 - i) (b := 1) hx hb dX0_remove_58 (by omega) ?_
  refine nz_copyl (ws' := wX a cs tp wd (va_cpy lx.1 lx.1 (lx.2.1 (i + 1)) (lx.2.1 i) ((lx.2.1 lx.2.2.2) - (lx.2.1 (i + 1))), lx.2.1, va_cpy lx.2.2.1 lx.2.2.1 (i + 1) i ((lx.2.2.2 - i) - 1), lx.2.2.2) ro rs) (f := lx.2.2.1) (g := lx.2.2.1) (sp := i + 1) (dp := i) (n := (lx.2.2.2 - i) - 1) hx hb (hml.trans hl.1.symm) hown (hts (.methodLink RX0 74 arraycopyName) (by decide +kernel)) (hts (.native arraycopyName) (by decide +kernel)) (hts (.static arraycopyName) (by decide +kernel)) (hts (.initialized "java/lang/System") (by decide +kernel)) hK hP (wX_D ha) hS 10 10 2 2 rfl rfl rfl rfl rfl (by omega) (by omega) (by omega) (by omega) (by omega) (fun _ _ => rfl) (Nat.le_of_ble_eq_true rfl) (Nat.le_of_ble_eq_true rfl) dX0_remove_59 rfl (fun H locs hP hS => ?_)
  refine lv_iload_n hx hb dX0_remove_62 rfl (lv_at hl 3 rfl) ?_
  refine lv_iconst (v := nI 1) hx hb dX0_remove_63 (by decide +kernel) ?_
  refine nz_iadd (a := i) (b := 1) hx hb dX0_remove_64 ?_
  refine lv_istore (lv' := [(4, .int (nI (i + 1))), (3, .int (nI (lx.2.1 (i + 1)))), (2, .int (nI (lx.2.1 (i + 1) - lx.2.1 i))), (0, .ref (a 3)), (1, .int (nI (i)))]) hx hb dX0_remove_65 hl (by decide) rfl (fun ls hl => ?_)
  have hP : va_P D vwCl (wX a cs tp wd (va_cpy lx.1 lx.1 (lx.2.1 (i + 1)) (lx.2.1 i) ((lx.2.1 lx.2.2.2) - (lx.2.1 (i + 1))), delSt lx.2.1 i (lx.2.1 (i + 1) - lx.2.1 i) (i + 1), va_cpy lx.2.2.1 lx.2.2.1 (i + 1) i ((lx.2.2.2 - i) - 1), lx.2.2.2) ro rs) H := by rw [delSt_0]; exact hP
  have loop : ∀ (fuel : Nat) (k : Nat), (i < k) → (k ≤ lx.2.2.2) → lx.2.2.2 - k < fuel → ∀ (H : Heap) (locs : List Loc), va_P D vwCl (wX a cs tp wd (va_cpy lx.1 lx.1 (lx.2.1 (i + 1)) (lx.2.1 i) ((lx.2.1 lx.2.2.2) - (lx.2.1 (i + 1))), delSt lx.2.1 i (lx.2.1 (i + 1) - lx.2.1 i) k, va_cpy lx.2.2.1 lx.2.2.1 (i + 1) i ((lx.2.2.2 - i) - 1), lx.2.2.2) ro rs) H → va_S (inX a) s.heap H locs → ∀ ls : Array Slot, lv_has ls 5 [(0, .ref (a 3)), (1, .int (nI (i))), (2, .int (nI (lx.2.1 (i + 1) - lx.2.1 i))), (4, .int (nI (k)))] → W p l e rmX0_remove s m args below meth c H locs 0 0 Q (F0 m 67 ls []) := by
    intro fuel
    induction fuel with
    | zero => intro k hk1 hk2 hf; exact absurd hf (Nat.not_lt_zero _)
    | succ fuel ih =>
      intro k hk1 hk2 hf H locs hP hS ls hl
      refine lv_iload hx hb dX0_remove_67 (lv_at hl 3 rfl) ?_
      refine lv_aload_n hx hb dX0_remove_69 rfl (lv_at hl 0 rfl) ?_
      refine va_get (D := D) (ci := 0) (v := .int (nI (lx.2.2.2))) (C := RX0) (T := TX0) (N := 4) hx hb hts hinX0 hown hK hP 3 rfl rfl 3 (by decide) (hts (.fieldLink RX0 23 "TypoSuggester$Lexicon" "count" "I") (by decide +kernel)) (fun _ h9 => h9) rfl dX0_remove_70 ?_
      refine nz_cge (a := k) (b := lx.2.2.2) (tgt := 100) hx hb dX0_remove_73 (by decide) (by omega) (by omega) (fun c_73 => ?_) (fun c_73 => ?_)
      · refine lv_aload_n hx hb dX0_remove_100 rfl (lv_at hl 0 rfl) ?_
        refine lv_dup hx hb dX0_remove_101 rfl ?_
        refine va_get (D := D) (ci := 0) (v := .int (nI (lx.2.2.2))) (C := RX0) (T := TX0) (N := 4) hx hb hts hinX0 hown hK hP 3 rfl rfl 3 (by decide) (hts (.fieldLink RX0 23 "TypoSuggester$Lexicon" "count" "I") (by decide +kernel)) (fun _ h9 => h9) rfl dX0_remove_102 ?_
        refine lv_iconst (v := nI 1) hx hb dX0_remove_105 (by decide +kernel) ?_
        refine nz_isub (a := lx.2.2.2) (b := 1) hx hb dX0_remove_106 (by omega) ?_
        refine nz_put (D := D) (ci := 0) (v := .int (nI (lx.2.2.2 - 1))) (ty := .int) (ws' := wX a cs tp wd (va_cpy lx.1 lx.1 (lx.2.1 (i + 1)) (lx.2.1 i) ((lx.2.1 lx.2.2.2) - (lx.2.1 (i + 1))), delSt lx.2.1 i (lx.2.1 (i + 1) - lx.2.1 i) k, va_cpy lx.2.2.1 lx.2.2.1 (i + 1) i ((lx.2.2.2 - i) - 1), lx.2.2.2 - 1) ro rs) (C := RX0) (T := TX0) (N := 4) hx hb hts hinX0 tyX0 tyX0_ok nmX0 hown hK hP (wX_D ha) hS 3 rfl rfl 3 (by decide) (hts (.fieldLink RX0 23 "TypoSuggester$Lexicon" "count" "I") (by decide +kernel)) (fun _ h9 => h9) rfl (by decide +kernel) rfl rfl (Nat.le_of_ble_eq_true rfl) dX0_remove_107 rfl (fun H locs hP hS => ?_)
        rw [show k = lx.2.2.2 by omega] at hP
        exact hret 110 ls H locs dX0_remove_110 hP hS
      · refine lv_aload_n hx hb dX0_remove_76 rfl (lv_at hl 0 rfl) ?_
        refine va_get (D := D) (ci := 0) (v := .ref (a 9)) (C := RX0) (T := TX0) (N := 4) hx hb hts hinX0 hown hK hP 3 rfl rfl 1 (by decide) (hts (.fieldLink RX0 15 "TypoSuggester$Lexicon" "starts" "[I") (by decide +kernel)) (fun _ h9 => h9) rfl dX0_remove_77 ?_
        refine lv_iload hx hb dX0_remove_80 (lv_at hl 3 rfl) ?_
        refine lv_aload_n hx hb dX0_remove_82 rfl (lv_at hl 0 rfl) ?_
        refine va_get (D := D) (ci := 0) (v := .ref (a 9)) (C := RX0) (T := TX0) (N := 4) hx hb hts hinX0 hown hK hP 3 rfl rfl 1 (by decide) (hts (.fieldLink RX0 15 "TypoSuggester$Lexicon" "starts" "[I") (by decide +kernel)) (fun _ h9 => h9) rfl dX0_remove_83 ?_
        refine lv_iload hx hb dX0_remove_86 (lv_at hl 3 rfl) ?_
        refine lv_iconst (v := nI 1) hx hb dX0_remove_88 (by decide +kernel) ?_
        refine nz_iadd (a := k) (b := 1) hx hb dX0_remove_89 ?_
        refine nz_iald (f := delSt lx.2.1 i (lx.2.1 (i + 1) - lx.2.1 i) k) (k := k + 1) hx hb hK hP 9 1 rfl rfl (by omega) (by decide) dX0_remove_90 ?_
        refine lv_iload_n hx hb dX0_remove_91 rfl (lv_at hl 2 rfl) ?_
        have hd1 : delSt lx.2.1 i (lx.2.1 (i + 1) - lx.2.1 i) k (k + 1) = lx.2.1 (k + 1) := delSt_ge (by omega)
        have hd2 : lx.2.1 (i + 1) ≤ lx.2.1 (k + 1) := lx_mono hB _ _ (by omega) (by omega)
        refine nz_isub (a := (delSt lx.2.1 i (lx.2.1 (i + 1) - lx.2.1 i) k) (k + 1)) (b := lx.2.1 (i + 1) - lx.2.1 i) hx hb dX0_remove_92 (by omega) ?_
        refine nz_iast (f := delSt lx.2.1 i (lx.2.1 (i + 1) - lx.2.1 i) k) (k := k) (v := ((delSt lx.2.1 i (lx.2.1 (i + 1) - lx.2.1 i) k) (k + 1)) - (lx.2.1 (i + 1) - lx.2.1 i)) (ws' := wX a cs tp wd (va_cpy lx.1 lx.1 (lx.2.1 (i + 1)) (lx.2.1 i) ((lx.2.1 lx.2.2.2) - (lx.2.1 (i + 1))), va_up (delSt lx.2.1 i (lx.2.1 (i + 1) - lx.2.1 i) k) k (((delSt lx.2.1 i (lx.2.1 (i + 1) - lx.2.1 i) k) (k + 1)) - (lx.2.1 (i + 1) - lx.2.1 i)), va_cpy lx.2.2.1 lx.2.2.1 (i + 1) i ((lx.2.2.2 - i) - 1), lx.2.2.2) ro rs) hx hb hK hP (wX_D ha) hS 9 1 rfl rfl (by omega) (by decide) dX0_remove_93 rfl (fun H locs hP hS => ?_)
        have e_1 : va_up (delSt lx.2.1 i (lx.2.1 (i + 1) - lx.2.1 i) k) k (((delSt lx.2.1 i (lx.2.1 (i + 1) - lx.2.1 i) k) (k + 1)) - (lx.2.1 (i + 1) - lx.2.1 i)) = delSt lx.2.1 i (lx.2.1 (i + 1) - lx.2.1 i) (k + 1) := delSt_step (by omega)
        rw [e_1] at hP
        refine lv_iinc (v := nI (k + 1)) (lv' := [(4, .int (nI (k + 1))), (0, .ref (a 3)), (1, .int (nI (i))), (2, .int (nI (lx.2.1 (i + 1) - lx.2.1 i)))]) hx hb dX0_remove_94 hl (k := 3) rfl (nz_inc1 _) (by decide) rfl (fun ls hl => ?_)
        refine lv_goto (tgt := 67) hx hb dX0_remove_97 (by decide) ?_
        exact ih (k + 1) (by omega) (by omega) (by omega) H locs hP hS ls (lv_sub hl [1, 2, 3, 0] rfl)
  exact loop (lx.2.2.2 - (i + 1) + 1) (i + 1) (Nat.lt_succ_self _) (by omega) (Nat.lt_succ_self _) H locs hP hS ls (lv_sub hl [3, 4, 2, 0] rfl)
abbrev rmX0_grow : Room := { frames := 4, cells := 0, slots := 0, locals := 94 }
set_option maxHeartbeats 4000000 in
set_option maxRecDepth 100000 in
theorem mX0_grow (l : Launch) (D : va_G) (a : Nat → Nat) (cs : Nat → ClassId) (tp : (Nat → Int32) × Nat) (wd : (Nat → Nat) × Nat) (lx : (Nat → Nat) × (Nat → Nat) × (Nat → Nat) × Nat) (ro : Nat → Nat) (rs : (Nat → Nat) × (Nat → Nat) × (Nat → Nat) × (Nat → Nat) × (Nat → Nat) × Nat) (wt : Nat) (r : Nat) (b1 : Bool) (b2 : Bool) (ha : wInj a) (hB : LxB lx) (hW : WdB wd) (hwt : wt ≤ 1000000) (hr : r ≤ lx.2.2.2 ∧ (∀ i, i < r → ltF (TX lx i) (ZX lx i) wd.1 wd.2) ∧ (∀ i, r ≤ i → i < lx.2.2.2 → ¬ ltF (TX lx i) (ZX lx i) wd.1 wd.2)) (hb1 : b1 = true ↔ (r < lx.2.2.2 ∧ lx.2.1 (r + 1) - lx.2.1 r = wd.2 ∧ ∀ j, j < wd.2 → TX lx r j = wd.1 j)) (hb2 : b2 = true ↔ (lx.2.2.2 < 600 ∧ lx.2.1 lx.2.2.2 + wd.2 ≤ 6000)) : Met l yX0_grow wsX0_grow rmX0_grow (wdP D vwCl (wX a cs tp wd lx ro rs) (tyX cs) [.ref (a 3), .ref (a 2), .int (nI (wt))]) (wrQ (some (.int (bI (b1 || b2)))) (fun H => va_P D vwCl (wX a cs tp wd (bif b1 then lxAdd lx r wt else (bif b2 then lxIns lx wd r wt else lx)) ro rs) H) (inX a)) 0 0 (inX a) := by
  obtain ⟨hB1, hB2, hB3, hB4, hB5⟩ := id hB
  obtain ⟨hW1, hW2⟩ := id hW
  have hr1 := hr.1
  refine nz_metWi (by decide) rfl (Nat.le_of_ble_eq_true rfl) (bI_nar _) ?_
  intro p e s m args below meth c Q hx hb hml hts hown hP hK hret ls hl
  have hl : lv_has ls 4 [(0, .ref (a 3)), (1, .ref (a 2)), (2, .int (nI (wt)))] := hl
  have hown : s.vm.findClass RX0 = some m.cls := hown
  have hinX0 : ∀ w ∈ u_ws RX0 TX0 4, w ∈ wsX0_grow := by decide +kernel
  have hS : va_S (inX a) s.heap s.heap [] := va_S.rf
  obtain ⟨H, hH⟩ : ∃ H, H = s.heap := ⟨_, rfl⟩
  obtain ⟨locs, hlocs⟩ : ∃ locs : List Loc, locs = [] := ⟨_, rfl⟩
  have hP : va_P D vwCl (wX a cs tp wd lx ro rs) H := hH ▸ hP
  have hS : va_S (inX a) s.heap H locs := by rw [hH, hlocs]; exact va_S.rf
  suffices hgo : W p l e rmX0_grow s m args below meth c H locs 0 0 Q (F0 m 0 ls []) by rw [hH, hlocs] at hgo; exact hgo
  clear hH hlocs
  refine lv_aload_n hx hb dX0_grow_0 rfl (lv_at hl 0 rfl) ?_
  refine lv_aload_n hx hb dX0_grow_1 rfl (lv_at hl 1 rfl) ?_
  refine nz_callR (va_runV (As := [.ref (a 2)]) (rest := []) ⟨hx, hb, hml, hown, hts⟩ (mX0_placeOf l D a cs tp wd lx ro rs r hB hW hr) (cwV 1 hts gX0_grow_X0_placeOf rfl rfl rfl (by decide +kernel) ⟨Nat.le_of_ble_eq_true rfl, Nat.le_of_ble_eq_true rfl⟩) (nz_preV (ci := 0) (q0 := 3) hK hP rfl rfl) rfl rfl hl.1 rfl (lv_room (Nat.le_of_ble_eq_true rfl)) dX0_grow_2 ⟨Nat.zero_le _, Nat.zero_le _⟩) ?_
  refine lv_istore_n (lv' := [(3, .int (nI (r))), (0, .ref (a 3)), (1, .ref (a 2)), (2, .int (nI (wt)))]) hx hb dX0_grow_5 rfl hl (by decide) rfl (fun ls hl => ?_)
  refine lv_aload_n hx hb dX0_grow_6 rfl (lv_at hl 1 rfl) ?_
  refine lv_iload_n hx hb dX0_grow_7 rfl (lv_at hl 0 rfl) ?_
  refine lv_aload_n hx hb dX0_grow_8 rfl (lv_at hl 2 rfl) ?_
  refine nz_callR (va_runV (As := [.int (nI (r)), .ref (a 2)]) (rest := []) ⟨hx, hb, hml, hown, hts⟩ (mX0_standsAt l D a cs tp wd lx ro rs r b1 hB hW hr1 hb1) (cwV 2 hts gX0_grow_X0_standsAt rfl rfl rfl (by decide +kernel) ⟨Nat.le_of_ble_eq_true rfl, Nat.le_of_ble_eq_true rfl⟩) (nz_preV (ci := 0) (q0 := 3) hK hP rfl rfl) rfl rfl hl.1 rfl (lv_room (Nat.le_of_ble_eq_true rfl)) dX0_grow_9 ⟨Nat.zero_le _, Nat.zero_le _⟩) ?_
  refine nz_ifeqB (tgt := 38) hx hb dX0_grow_12 (by decide) (fun c_12 => ?_) (fun c_12 => ?_)
  · refine lv_aload_n hx hb dX0_grow_38 rfl (lv_at hl 1 rfl) ?_
    refine lv_iload_n hx hb dX0_grow_39 rfl (lv_at hl 0 rfl) ?_
    refine lv_aload_n hx hb dX0_grow_40 rfl (lv_at hl 2 rfl) ?_
    refine lv_iload_n hx hb dX0_grow_41 rfl (lv_at hl 3 rfl) ?_
    refine nz_i2l hx hb dX0_grow_42 (by omega) ?_
    refine nz_callW (va_runV (As := [.int (nI (r)), .ref (a 2), .long (lN (wt))]) (rest := []) ⟨hx, hb, hml, hown, hts⟩ (mX0_insert l D a cs tp wd lx ro rs r wt b2 ha hB hW hr1 (by omega) hb2) (cwV 3 hts gX0_grow_X0_insert rfl rfl rfl (by decide +kernel) ⟨Nat.le_of_ble_eq_true rfl, Nat.le_of_ble_eq_true rfl⟩) (nz_preV (ci := 0) (q0 := 3) hK hP rfl rfl) rfl rfl hl.1 rfl (lv_room (Nat.le_of_ble_eq_true rfl)) dX0_grow_43 ⟨Nat.zero_le _, Nat.zero_le _⟩) hS (fun _ h => h) (fun H locs hP _ _ hS => ?_)
    subst c_12
    exact hret 46 ls H locs dX0_grow_46 hP hS
  · have hrc : r < lx.2.2.2 := (hb1.mp c_12).1
    have hw5 := hB5 r
    refine lv_aload_n hx hb dX0_grow_15 rfl (lv_at hl 1 rfl) ?_
    refine va_get (D := D) (ci := 0) (v := .ref (a 10)) (C := RX0) (T := TX0) (N := 4) hx hb hts hinX0 hown hK hP 3 rfl rfl 2 (by decide) (hts (.fieldLink RX0 19 "TypoSuggester$Lexicon" "weights" "[J") (by decide +kernel)) (fun _ h9 => h9) rfl dX0_grow_16 ?_
    refine lv_iload_n hx hb dX0_grow_19 rfl (lv_at hl 0 rfl) ?_
    refine lv_aload_n hx hb dX0_grow_20 rfl (lv_at hl 1 rfl) ?_
    refine va_get (D := D) (ci := 0) (v := .ref (a 10)) (C := RX0) (T := TX0) (N := 4) hx hb hts hinX0 hown hK hP 3 rfl rfl 2 (by decide) (hts (.fieldLink RX0 19 "TypoSuggester$Lexicon" "weights" "[J") (by decide +kernel)) (fun _ h9 => h9) rfl dX0_grow_21 ?_
    refine lv_iload_n hx hb dX0_grow_24 rfl (lv_at hl 0 rfl) ?_
    refine nz_lald (f := lx.2.2.1) (k := r) hx hb hK hP 10 2 rfl rfl (by omega) (by decide) dX0_grow_25 ?_
    refine lv_iload_n hx hb dX0_grow_26 rfl (lv_at hl 3 rfl) ?_
    refine nz_i2l hx hb dX0_grow_27 (by omega) ?_
    refine nz_ladd (a := lx.2.2.1 r) (b := wt) hx hb dX0_grow_28 ?_
    refine lv_ldc2 (v := lN (1000000000000)) hx hb hown (hts (.constantLong RX0 61 (1000000000000)) (by decide +kernel)) dX0_grow_29 ?_
    refine nz_mminl (a := lx.2.2.1 r + wt) (b := 1000000000000) hx hb (hml.trans hl.1.symm) hown (hts (.methodLink RX0 63 Lib.MathLoose.min_long.x) (by decide +kernel)) (hts (.static Lib.MathLoose.min_long.x) (by decide +kernel)) (hts (.initialized "java/lang/Math") (by decide +kernel)) (hts (.code Lib.MathLoose.min_long.x Lib.MathLoose.min_long.code 4 (some .long)) (by decide +kernel)) (Nat.le_of_ble_eq_true rfl) (Nat.le_of_ble_eq_true rfl) (Nat.zero_le _) (Nat.zero_le _) (by omega) (by omega) dX0_grow_32 ?_
    refine nz_last (f := lx.2.2.1) (k := r) (v := min (lx.2.2.1 r + wt) 1000000000000) (ws' := wX a cs tp wd (lx.1, lx.2.1, va_up lx.2.2.1 r (min (lx.2.2.1 r + wt) 1000000000000), lx.2.2.2) ro rs) hx hb hK hP (wX_D ha) hS 10 2 rfl rfl (by omega) (by decide) dX0_grow_35 rfl (fun H locs hP hS => ?_)
    refine lv_iconst (v := nI 1) hx hb dX0_grow_36 (by decide +kernel) ?_
    subst c_12
    refine nz_top bI_t ?_
    exact hret 37 ls H locs dX0_grow_37 hP hS
/-- letter j of the i-th of n rows of Z i letters T i; -1 where there is none -/
def termF (n : Nat) (Z : Nat → Nat) (T : Nat → Nat → Nat) (i j : Int32) : Int32 := if ¬ i < 0 ∧ i.toNatClampNeg < n ∧ ¬ j < 0 ∧ j.toNatClampNeg < Z i.toNatClampNeg then nI (T i.toNatClampNeg j.toNatClampNeg) else -1
theorem termF_n1 {n : Nat} {Z : Nat → Nat} {T : Nat → Nat → Nat} {i j : Int32} (h : i < 0) : termF n Z T i j = -1 := if_neg (fun z => z.1 h)
theorem termF_n2 {n : Nat} {Z : Nat → Nat} {T : Nat → Nat → Nat} {i j : Int32} (h : j < 0) : termF n Z T i j = -1 := if_neg (fun z => z.2.2.1 h)
theorem termF_g1 {n : Nat} {Z : Nat → Nat} {T : Nat → Nat → Nat} {i : Nat} {j : Int32} (hi : i < 2 ^ 31) (h : n ≤ i) : termF n Z T (nI i) j = -1 := if_neg (fun z => by have := z.2.1; rw [nI_clamp hi] at this; omega)
theorem termF_g2 {n : Nat} {Z : Nat → Nat} {T : Nat → Nat → Nat} {i j : Nat} (hi : i < 2 ^ 31) (hj : j < 2 ^ 31) (h : Z i ≤ j) : termF n Z T (nI i) (nI j) = -1 := if_neg (fun z => by have := z.2.2.2; rw [nI_clamp hi, nI_clamp hj] at this; omega)
theorem termF_in {n : Nat} {Z : Nat → Nat} {T : Nat → Nat → Nat} {i j : Nat} (hi : i < 2 ^ 31) (hj : j < 2 ^ 31) (h1 : i < n) (h2 : j < Z i) : termF n Z T (nI i) (nI j) = nI (T i j) := by
  unfold termF
  rw [nI_clamp hi, nI_clamp hj, if_pos ⟨nI_pos hi, h1, nI_pos hj, h2⟩]
theorem termF_congr {n : Nat} {Z Z' : Nat → Nat} {T T' : Nat → Nat → Nat} (hZ : ∀ i, i < n → Z i = Z' i) (hT : ∀ i j, i < n → j < Z i → T i j = T' i j) (i j : Int32) : termF n Z T i j = termF n Z' T' i j := by
  unfold termF
  by_cases h : i.toNatClampNeg < n
  · rw [← hZ _ h]
    by_cases h2 : ¬ i < 0 ∧ i.toNatClampNeg < n ∧ ¬ j < 0 ∧ j.toNatClampNeg < Z i.toNatClampNeg
    · rw [if_pos h2, if_pos h2, hT _ _ h h2.2.2.2]
    · rw [if_neg h2, if_neg h2]
  · rw [if_neg (fun z => h z.2.1), if_neg (fun z => h z.2.1)]
abbrev rmX0_letterOf : Room := { frames := 1, cells := 0, slots := 0, locals := 21 }
set_option maxHeartbeats 4000000 in
set_option maxRecDepth 100000 in
theorem mX0_letterOf (l : Launch) (D : va_G) (a : Nat → Nat) (cs : Nat → ClassId) (tp : (Nat → Int32) × Nat) (wd : (Nat → Nat) × Nat) (lx : (Nat → Nat) × (Nat → Nat) × (Nat → Nat) × Nat) (ro : Nat → Nat) (rs : (Nat → Nat) × (Nat → Nat) × (Nat → Nat) × (Nat → Nat) × (Nat → Nat) × Nat) (i : Int32) (j : Int32) (hB : LxB lx) : Met l yX0_letterOf wsX0_letterOf rmX0_letterOf (wdP D vwCl (wX a cs tp wd lx ro rs) (tyX cs) [.ref (a 3), .int (i), .int (j)]) (rdQ (.int (termF lx.2.2.2 (ZX lx) (TX lx) i j))) 0 0 (fun _ => False) := by
  obtain ⟨hB1, hB2, hB3, hB4, hB5⟩ := id hB
  refine nz_metRi (by decide) rfl (Nat.le_of_ble_eq_true rfl) rfl ?_
  intro p e s m args below meth c Q hx hb hml hts hown hP hK hret ls hl
  have hl : lv_has ls 3 [(0, .ref (a 3)), (1, .int (i)), (2, .int (j))] := hl
  have hown : s.vm.findClass RX0 = some m.cls := hown
  have hinX0 : ∀ w ∈ u_ws RX0 TX0 4, w ∈ wsX0_letterOf := by decide +kernel
  refine lv_iload_n hx hb dX0_letterOf_0 rfl (lv_at hl 1 rfl) ?_
  refine lv_if_lt (tgt := 25) hx hb dX0_letterOf_1 (by decide) (fun c_1 => ?_) (fun c_1 => ?_)
  · have hz := termF_n1 (n := lx.2.2.2) (Z := ZX lx) (T := TX lx) (j := j) c_1
    refine lv_iconst (v := (-1)) hx hb dX0_letterOf_25 (by decide +kernel) ?_
    rw [hz] at hret
    exact hret 26 ls dX0_letterOf_26
  · obtain ⟨i1, hi1, rfl⟩ := nI_of c_1
    refine lv_iload_n hx hb dX0_letterOf_4 rfl (lv_at hl 1 rfl) ?_
    refine lv_aload_n hx hb dX0_letterOf_5 rfl (lv_at hl 0 rfl) ?_
    refine va_get (D := D) (ci := 0) (v := .int (nI (lx.2.2.2))) (C := RX0) (T := TX0) (N := 4) hx hb hts hinX0 hown hK hP 3 rfl rfl 3 (by decide) (hts (.fieldLink RX0 23 "TypoSuggester$Lexicon" "count" "I") (by decide +kernel)) (fun _ h9 => h9) rfl dX0_letterOf_6 ?_
    refine nz_cge (a := i1) (b := lx.2.2.2) (tgt := 25) hx hb dX0_letterOf_9 (by decide) (by omega) (by omega) (fun c_9 => ?_) (fun c_9 => ?_)
    · have hz := termF_g1 (n := lx.2.2.2) (Z := ZX lx) (T := TX lx) (j := j) hi1 c_9
      refine lv_iconst (v := (-1)) hx hb dX0_letterOf_25 (by decide +kernel) ?_
      rw [hz] at hret
      exact hret 26 ls dX0_letterOf_26
    · refine lv_iload_n hx hb dX0_letterOf_12 rfl (lv_at hl 2 rfl) ?_
      refine lv_if_lt (tgt := 25) hx hb dX0_letterOf_13 (by decide) (fun c_13 => ?_) (fun c_13 => ?_)
      · have hz := termF_n2 (n := lx.2.2.2) (Z := ZX lx) (T := TX lx) (i := nI i1) c_13
        refine lv_iconst (v := (-1)) hx hb dX0_letterOf_25 (by decide +kernel) ?_
        rw [hz] at hret
        exact hret 26 ls dX0_letterOf_26
      · obtain ⟨j1, hj1, rfl⟩ := nI_of c_13
        refine lv_iload_n hx hb dX0_letterOf_16 rfl (lv_at hl 2 rfl) ?_
        refine lv_aload_n hx hb dX0_letterOf_17 rfl (lv_at hl 0 rfl) ?_
        refine lv_iload_n hx hb dX0_letterOf_18 rfl (lv_at hl 1 rfl) ?_
        refine nz_callR (va_runV (As := [.int (nI (i1))]) (rest := [.int (nI (j1))]) ⟨hx, hb, hml, hown, hts⟩ (mX0_lengthOf l D a cs tp wd lx ro rs i1 hB c_9) (cwV 1 hts gX0_letterOf_X0_lengthOf rfl rfl rfl (by decide +kernel) ⟨Nat.le_of_ble_eq_true rfl, Nat.le_of_ble_eq_true rfl⟩) (nz_preV (ci := 0) (q0 := 3) hK hP rfl rfl) rfl rfl hl.1 rfl (lv_room (Nat.le_of_ble_eq_true rfl)) dX0_letterOf_19 ⟨Nat.zero_le _, Nat.zero_le _⟩) ?_
        refine nz_clt (a := j1) (b := lx.2.1 (i1 + 1) - lx.2.1 i1) (tgt := 27) hx hb dX0_letterOf_22 (by decide) (by omega) (by have := hB3 (i1 + 1); omega) (fun c_22 => ?_) (fun c_22 => ?_)
        · have hz := termF_in (n := lx.2.2.2) (Z := ZX lx) (T := TX lx) hi1 hj1 c_9 c_22
          have hm3 := hB3 (i1 + 1)
          refine lv_aload_n hx hb dX0_letterOf_27 rfl (lv_at hl 0 rfl) ?_
          refine va_get (D := D) (ci := 0) (v := .ref (a 8)) (C := RX0) (T := TX0) (N := 4) hx hb hts hinX0 hown hK hP 3 rfl rfl 0 (by decide) (hts (.fieldLink RX0 9 "TypoSuggester$Lexicon" "letters" "[B") (by decide +kernel)) (fun _ h9 => h9) rfl dX0_letterOf_28 ?_
          refine lv_aload_n hx hb dX0_letterOf_31 rfl (lv_at hl 0 rfl) ?_
          refine va_get (D := D) (ci := 0) (v := .ref (a 9)) (C := RX0) (T := TX0) (N := 4) hx hb hts hinX0 hown hK hP 3 rfl rfl 1 (by decide) (hts (.fieldLink RX0 15 "TypoSuggester$Lexicon" "starts" "[I") (by decide +kernel)) (fun _ h9 => h9) rfl dX0_letterOf_32 ?_
          refine lv_iload_n hx hb dX0_letterOf_35 rfl (lv_at hl 1 rfl) ?_
          refine nz_iald (f := lx.2.1) (k := i1) hx hb hK hP 9 1 rfl rfl (by omega) (by decide) dX0_letterOf_36 ?_
          refine lv_iload_n hx hb dX0_letterOf_37 rfl (lv_at hl 2 rfl) ?_
          refine nz_iadd (a := lx.2.1 i1) (b := j1) hx hb dX0_letterOf_38 ?_
          refine nz_bald (f := lx.1) (k := lx.2.1 i1 + j1) hx hb hK hP 8 0 rfl rfl (by omega) (by decide) dX0_letterOf_39 ?_
          rw [hz] at hret
          exact hret 40 ls dX0_letterOf_40
        · have hz := termF_g2 (n := lx.2.2.2) (Z := ZX lx) (T := TX lx) hi1 hj1 c_22
          refine lv_iconst (v := (-1)) hx hb dX0_letterOf_25 (by decide +kernel) ?_
          rw [hz] at hret
          exact hret 26 ls dX0_letterOf_26
