/-! Tape, Word, and the outer methods that need no more. -/
def tpFeed (tp : (Nat → Int32) × Nat) (v : Int32) : (Nat → Int32) × Nat := (upd (upd (upd (upd tp.1 tp.2 ((v >>> (nI (24) &&& 31)).toInt8.toInt32).toInt8.toInt32) (tp.2 + 1) ((v >>> (nI (16) &&& 31)).toInt8.toInt32).toInt8.toInt32) (tp.2 + 1 + 1) ((v >>> (nI (8) &&& 31)).toInt8.toInt32).toInt8.toInt32) (tp.2 + 1 + 1 + 1) ((v >>> (nI (0) &&& 31)).toInt8.toInt32).toInt8.toInt32, tp.2 + 1 + 1 + 1 + 1)
/-- a small letter; the small letter of a letter; -1 for what is none -/
def smB (x : Int32) : Bool := decide (¬ x < nI 97 ∧ ¬ nI 122 < x)
def smI (x : Int32) : Int32 := if smB x = true then x else if ¬ x < nI 65 ∧ ¬ nI 90 < x then x - nI 65 + nI 97 else -1
def lowN (x : Int32) : Nat := if smI x = -1 then 0 else (smI x).toNatClampNeg
theorem smB_nat {x : Int32} (h : smB x = true) : ∃ n, 97 ≤ n ∧ n ≤ 122 ∧ x = nI n := by
  unfold smB at h
  rw [decide_eq_true_iff] at h
  have h0 : ¬ x < 0 := fun z => h.1 (Int32.lt_trans z (by decide +kernel))
  obtain ⟨n, hn, rfl⟩ := nI_of h0
  refine ⟨n, ?_, ?_, rfl⟩
  · have h1 := h.1
    rw [nI_ltI hn (by decide)] at h1
    omega
  · have h2 := h.2
    rw [nI_ltI (by decide) hn] at h2
    omega
theorem smB_of {n : Nat} (h1 : 97 ≤ n) (h2 : n ≤ 122) : smB (nI n) = true := by
  unfold smB
  rw [decide_eq_true_iff, nI_ltI (by omega) (by decide), nI_ltI (by decide) (by omega)]
  omega
theorem smI_nat {x : Int32} (h : smI x ≠ -1) : ∃ n, 97 ≤ n ∧ n ≤ 122 ∧ smI x = nI n := by
  unfold smI at h ⊢
  by_cases h1 : smB x = true
  · rw [if_pos h1]
    exact smB_nat h1
  · rw [if_neg h1] at h ⊢
    by_cases h2 : ¬ x < nI 65 ∧ ¬ nI 90 < x
    · rw [if_pos h2]
      have h0 : ¬ x < 0 := fun z => h2.1 (Int32.lt_trans z (by decide +kernel))
      obtain ⟨n, hn, rfl⟩ := nI_of h0
      have h3 := h2.1
      have h4 := h2.2
      rw [nI_ltI hn (by decide)] at h3
      rw [nI_ltI (by decide) hn] at h4
      refine ⟨n - 65 + 97, by omega, by omega, ?_⟩
      rw [pk_sub (by omega), nI_add]
    · rw [if_neg h2] at h
      exact absurd rfl h
theorem lowN_or (x : Int32) : (smI x = -1 ∧ lowN x = 0) ∨ (97 ≤ lowN x ∧ lowN x ≤ 122 ∧ smI x = nI (lowN x)) := by
  unfold lowN
  by_cases h : smI x = -1
  · rw [if_pos h]
    exact Or.inl ⟨h, rfl⟩
  · rw [if_neg h]
    obtain ⟨n, h1, h2, h3⟩ := smI_nat h
    rw [h3, nI_clamp (by omega)]
    exact Or.inr ⟨h1, h2, rfl⟩
/-- cut: what it answers, how many bytes stay -/
def cutI (n : Nat) (x : Int32) : Int32 := if ¬ x < 0 ∧ x.toNatClampNeg ≤ n then nI (n - x.toNatClampNeg) else -1
def cutN (n : Nat) (x : Int32) : Nat := if ¬ x < 0 ∧ x.toNatClampNeg ≤ n then x.toNatClampNeg else n
abbrev rmX3_append : Room := { frames := 0, cells := 0, slots := 0, locals := 0 }
set_option maxHeartbeats 4000000 in
set_option maxRecDepth 100000 in
theorem mX3_append (l : Launch) (D : va_G) (a : Nat → Nat) (cs : Nat → ClassId) (tp : (Nat → Int32) × Nat) (wd : (Nat → Nat) × Nat) (lx : (Nat → Nat) × (Nat → Nat) × (Nat → Nat) × Nat) (ro : Nat → Nat) (rs : (Nat → Nat) × (Nat → Nat) × (Nat → Nat) × (Nat → Nat) × (Nat → Nat) × Nat) (v : Int32) (bb : Bool) (ha : wInj a) (hT : tp.2 ≤ 400) (hbb : bb = true ↔ tp.2 ≤ 396) : Met l yX3_append wsX3_append rmX3_append (wdP D vwCl (wX a cs tp wd lx ro rs) (tyX cs) [.ref (a 1), .int (v)]) (wrQ (some (.int (bI (bb)))) (fun H => va_P D vwCl (wX a cs (bif bb then tpFeed tp v else tp) wd lx ro rs) H) (inX a)) 0 0 (inX a) := by
  refine nz_metWi (by decide) rfl (Nat.le_of_ble_eq_true rfl) (bI_nar _) ?_
  intro p e s m args below meth c Q hx hb hml hts hown hP hK hret ls hl
  have hl : lv_has ls 3 [(0, .ref (a 1)), (1, .int (v))] := hl
  have hown : s.vm.findClass RX3 = some m.cls := hown
  have hinX3 : ∀ w ∈ u_ws RX3 TX3 2, w ∈ wsX3_append := by decide +kernel
  have hS : va_S (inX a) s.heap s.heap [] := va_S.rf
  obtain ⟨H, hH⟩ : ∃ H, H = s.heap := ⟨_, rfl⟩
  obtain ⟨locs, hlocs⟩ : ∃ locs : List Loc, locs = [] := ⟨_, rfl⟩
  have hP : va_P D vwCl (wX a cs tp wd lx ro rs) H := hH ▸ hP
  have hS : va_S (inX a) s.heap H locs := by rw [hH, hlocs]; exact va_S.rf
  suffices hgo : W p l e rmX3_append s m args below meth c H locs 0 0 Q (F0 m 0 ls []) by rw [hH, hlocs] at hgo; exact hgo
  clear hH hlocs
  refine lv_aload_n hx hb dX3_append_0 rfl (lv_at hl 0 rfl) ?_
  refine va_get (D := D) (ci := 3) (v := .int (nI (tp.2))) (C := RX3) (T := TX3) (N := 2) hx hb hts hinX3 hown hK hP 1 rfl rfl 1 (by decide) (hts (.fieldLink RX3 15 "TypoSuggester$Tape" "size" "I") (by decide +kernel)) (fun _ h9 => h9) rfl dX3_append_1 ?_
  refine lv_sipush (v := nI 396) hx hb dX3_append_4 (by decide +kernel) ?_
  refine nz_cle (a := tp.2) (b := 396) (tgt := 12) hx hb dX3_append_7 (by decide) (by omega) (by omega) (fun c_7 => ?_) (fun c_7 => ?_)
  · refine lv_bipush (v := nI 24) hx hb dX3_append_12 (by decide +kernel) ?_
    refine lv_istore_n (lv' := [(2, .int (nI (24))), (0, .ref (a 1)), (1, .int (v))]) hx hb dX3_append_14 rfl hl (by decide) rfl (fun ls hl => ?_)
    refine lv_iload_n hx hb dX3_append_15 rfl (lv_at hl 0 rfl) ?_
    refine nz_iflt (a := 24) (tgt := 48) hx hb dX3_append_16 (by decide) (by omega) ?_
    refine lv_aload_n hx hb dX3_append_19 rfl (lv_at hl 1 rfl) ?_
    refine va_get (D := D) (ci := 3) (v := .ref (a 6)) (C := RX3) (T := TX3) (N := 2) hx hb hts hinX3 hown hK hP 1 rfl rfl 0 (by decide) (hts (.fieldLink RX3 9 "TypoSuggester$Tape" "bytes" "[B") (by decide +kernel)) (fun _ h9 => h9) rfl dX3_append_20 ?_
    refine lv_aload_n hx hb dX3_append_23 rfl (lv_at hl 1 rfl) ?_
    refine va_get (D := D) (ci := 3) (v := .int (nI (tp.2))) (C := RX3) (T := TX3) (N := 2) hx hb hts hinX3 hown hK hP 1 rfl rfl 1 (by decide) (hts (.fieldLink RX3 15 "TypoSuggester$Tape" "size" "I") (by decide +kernel)) (fun _ h9 => h9) rfl dX3_append_24 ?_
    refine lv_iload_n hx hb dX3_append_27 rfl (lv_at hl 2 rfl) ?_
    refine lv_iload_n hx hb dX3_append_28 rfl (lv_at hl 0 rfl) ?_
    refine lv_ishr hx hb dX3_append_29 ?_
    refine lv_i2b (v := (v >>> ((nI (24)) &&& 31)).toInt8.toInt32) hx hb dX3_append_30 rfl ?_
    refine nz_bastR (f := tp.1) (k := tp.2) (v := (v >>> ((nI (24)) &&& 31)).toInt8.toInt32) (ws' := wX a cs (upd tp.1 tp.2 ((v >>> ((nI (24)) &&& 31)).toInt8.toInt32).toInt8.toInt32, tp.2) wd lx ro rs) hx hb hK hP (wX_D ha) hS 6 0 rfl rfl (by omega) (by decide) dX3_append_31 rfl (fun H locs hP hS => ?_)
    refine lv_aload_n hx hb dX3_append_32 rfl (lv_at hl 1 rfl) ?_
    refine lv_dup hx hb dX3_append_33 rfl ?_
    refine va_get (D := D) (ci := 3) (v := .int (nI (tp.2))) (C := RX3) (T := TX3) (N := 2) hx hb hts hinX3 hown hK hP 1 rfl rfl 1 (by decide) (hts (.fieldLink RX3 15 "TypoSuggester$Tape" "size" "I") (by decide +kernel)) (fun _ h9 => h9) rfl dX3_append_34 ?_
    refine lv_iconst (v := nI 1) hx hb dX3_append_37 (by decide +kernel) ?_
    refine nz_iadd (a := tp.2) (b := 1) hx hb dX3_append_38 ?_
    refine nz_put (D := D) (ci := 3) (v := .int (nI (tp.2 + 1))) (ty := .int) (ws' := wX a cs (upd tp.1 tp.2 ((v >>> ((nI (24)) &&& 31)).toInt8.toInt32).toInt8.toInt32, tp.2 + 1) wd lx ro rs) (C := RX3) (T := TX3) (N := 2) hx hb hts hinX3 tyX3 tyX3_ok nmX3 hown hK hP (wX_D ha) hS 1 rfl rfl 1 (by decide) (hts (.fieldLink RX3 15 "TypoSuggester$Tape" "size" "I") (by decide +kernel)) (fun _ h9 => h9) rfl (by decide +kernel) rfl rfl (Nat.le_of_ble_eq_true rfl) dX3_append_39 rfl (fun H locs hP hS => ?_)
    refine lv_iinc (v := nI (16)) (lv' := [(2, .int (nI (16))), (0, .ref (a 1)), (1, .int (v))]) hx hb dX3_append_42 hl (k := 0) rfl (by decide +kernel) (by decide) rfl (fun ls hl => ?_)
    refine lv_goto (tgt := 15) hx hb dX3_append_45 (by decide) ?_
    refine lv_iload_n hx hb dX3_append_15 rfl (lv_at hl 0 rfl) ?_
    refine nz_iflt (a := 16) (tgt := 48) hx hb dX3_append_16 (by decide) (by omega) ?_
    refine lv_aload_n hx hb dX3_append_19 rfl (lv_at hl 1 rfl) ?_
    refine va_get (D := D) (ci := 3) (v := .ref (a 6)) (C := RX3) (T := TX3) (N := 2) hx hb hts hinX3 hown hK hP 1 rfl rfl 0 (by decide) (hts (.fieldLink RX3 9 "TypoSuggester$Tape" "bytes" "[B") (by decide +kernel)) (fun _ h9 => h9) rfl dX3_append_20 ?_
    refine lv_aload_n hx hb dX3_append_23 rfl (lv_at hl 1 rfl) ?_
    refine va_get (D := D) (ci := 3) (v := .int (nI (tp.2 + 1))) (C := RX3) (T := TX3) (N := 2) hx hb hts hinX3 hown hK hP 1 rfl rfl 1 (by decide) (hts (.fieldLink RX3 15 "TypoSuggester$Tape" "size" "I") (by decide +kernel)) (fun _ h9 => h9) rfl dX3_append_24 ?_
    refine lv_iload_n hx hb dX3_append_27 rfl (lv_at hl 2 rfl) ?_
    refine lv_iload_n hx hb dX3_append_28 rfl (lv_at hl 0 rfl) ?_
    refine lv_ishr hx hb dX3_append_29 ?_
    refine lv_i2b (v := (v >>> ((nI (16)) &&& 31)).toInt8.toInt32) hx hb dX3_append_30 rfl ?_
    refine nz_bastR (f := upd tp.1 tp.2 ((v >>> ((nI (24)) &&& 31)).toInt8.toInt32).toInt8.toInt32) (k := tp.2 + 1) (v := (v >>> ((nI (16)) &&& 31)).toInt8.toInt32) (ws' := wX a cs (upd (upd tp.1 tp.2 ((v >>> ((nI (24)) &&& 31)).toInt8.toInt32).toInt8.toInt32) (tp.2 + 1) ((v >>> ((nI (16)) &&& 31)).toInt8.toInt32).toInt8.toInt32, tp.2 + 1) wd lx ro rs) hx hb hK hP (wX_D ha) hS 6 0 rfl rfl (by omega) (by decide) dX3_append_31 rfl (fun H locs hP hS => ?_)
    refine lv_aload_n hx hb dX3_append_32 rfl (lv_at hl 1 rfl) ?_
    refine lv_dup hx hb dX3_append_33 rfl ?_
    refine va_get (D := D) (ci := 3) (v := .int (nI (tp.2 + 1))) (C := RX3) (T := TX3) (N := 2) hx hb hts hinX3 hown hK hP 1 rfl rfl 1 (by decide) (hts (.fieldLink RX3 15 "TypoSuggester$Tape" "size" "I") (by decide +kernel)) (fun _ h9 => h9) rfl dX3_append_34 ?_
    refine lv_iconst (v := nI 1) hx hb dX3_append_37 (by decide +kernel) ?_
    refine nz_iadd (a := tp.2 + 1) (b := 1) hx hb dX3_append_38 ?_
    refine nz_put (D := D) (ci := 3) (v := .int (nI (tp.2 + 1 + 1))) (ty := .int) (ws' := wX a cs (upd (upd tp.1 tp.2 ((v >>> ((nI (24)) &&& 31)).toInt8.toInt32).toInt8.toInt32) (tp.2 + 1) ((v >>> ((nI (16)) &&& 31)).toInt8.toInt32).toInt8.toInt32, tp.2 + 1 + 1) wd lx ro rs) (C := RX3) (T := TX3) (N := 2) hx hb hts hinX3 tyX3 tyX3_ok nmX3 hown hK hP (wX_D ha) hS 1 rfl rfl 1 (by decide) (hts (.fieldLink RX3 15 "TypoSuggester$Tape" "size" "I") (by decide +kernel)) (fun _ h9 => h9) rfl (by decide +kernel) rfl rfl (Nat.le_of_ble_eq_true rfl) dX3_append_39 rfl (fun H locs hP hS => ?_)
    refine lv_iinc (v := nI (8)) (lv' := [(2, .int (nI (8))), (0, .ref (a 1)), (1, .int (v))]) hx hb dX3_append_42 hl (k := 0) rfl (by decide +kernel) (by decide) rfl (fun ls hl => ?_)
    refine lv_goto (tgt := 15) hx hb dX3_append_45 (by decide) ?_
    refine lv_iload_n hx hb dX3_append_15 rfl (lv_at hl 0 rfl) ?_
    refine nz_iflt (a := 8) (tgt := 48) hx hb dX3_append_16 (by decide) (by omega) ?_
    refine lv_aload_n hx hb dX3_append_19 rfl (lv_at hl 1 rfl) ?_
    refine va_get (D := D) (ci := 3) (v := .ref (a 6)) (C := RX3) (T := TX3) (N := 2) hx hb hts hinX3 hown hK hP 1 rfl rfl 0 (by decide) (hts (.fieldLink RX3 9 "TypoSuggester$Tape" "bytes" "[B") (by decide +kernel)) (fun _ h9 => h9) rfl dX3_append_20 ?_
    refine lv_aload_n hx hb dX3_append_23 rfl (lv_at hl 1 rfl) ?_
    refine va_get (D := D) (ci := 3) (v := .int (nI (tp.2 + 1 + 1))) (C := RX3) (T := TX3) (N := 2) hx hb hts hinX3 hown hK hP 1 rfl rfl 1 (by decide) (hts (.fieldLink RX3 15 "TypoSuggester$Tape" "size" "I") (by decide +kernel)) (fun _ h9 => h9) rfl dX3_append_24 ?_
    refine lv_iload_n hx hb dX3_append_27 rfl (lv_at hl 2 rfl) ?_
    refine lv_iload_n hx hb dX3_append_28 rfl (lv_at hl 0 rfl) ?_
    refine lv_ishr hx hb dX3_append_29 ?_
    refine lv_i2b (v := (v >>> ((nI (8)) &&& 31)).toInt8.toInt32) hx hb dX3_append_30 rfl ?_
    refine nz_bastR (f := upd (upd tp.1 tp.2 ((v >>> ((nI (24)) &&& 31)).toInt8.toInt32).toInt8.toInt32) (tp.2 + 1) ((v >>> ((nI (16)) &&& 31)).toInt8.toInt32).toInt8.toInt32) (k := tp.2 + 1 + 1) (v := (v >>> ((nI (8)) &&& 31)).toInt8.toInt32) (ws' := wX a cs (upd (upd (upd tp.1 tp.2 ((v >>> ((nI (24)) &&& 31)).toInt8.toInt32).toInt8.toInt32) (tp.2 + 1) ((v >>> ((nI (16)) &&& 31)).toInt8.toInt32).toInt8.toInt32) (tp.2 + 1 + 1) ((v >>> ((nI (8)) &&& 31)).toInt8.toInt32).toInt8.toInt32, tp.2 + 1 + 1) wd lx ro rs) hx hb hK hP (wX_D ha) hS 6 0 rfl rfl (by omega) (by decide) dX3_append_31 rfl (fun H locs hP hS => ?_)
    refine lv_aload_n hx hb dX3_append_32 rfl (lv_at hl 1 rfl) ?_
    refine lv_dup hx hb dX3_append_33 rfl ?_
    refine va_get (D := D) (ci := 3) (v := .int (nI (tp.2 + 1 + 1))) (C := RX3) (T := TX3) (N := 2) hx hb hts hinX3 hown hK hP 1 rfl rfl 1 (by decide) (hts (.fieldLink RX3 15 "TypoSuggester$Tape" "size" "I") (by decide +kernel)) (fun _ h9 => h9) rfl dX3_append_34 ?_
    refine lv_iconst (v := nI 1) hx hb dX3_append_37 (by decide +kernel) ?_
    refine nz_iadd (a := tp.2 + 1 + 1) (b := 1) hx hb dX3_append_38 ?_
    refine nz_put (D := D) (ci := 3) (v := .int (nI (tp.2 + 1 + 1 + 1))) (ty := .int) (ws' := wX a cs (upd (upd (upd tp.1 tp.2 ((v >>> ((nI (24)) &&& 31)).toInt8.toInt32).toInt8.toInt32) (tp.2 + 1) ((v >>> ((nI (16)) &&& 31)).toInt8.toInt32).toInt8.toInt32) (tp.2 + 1 + 1) ((v >>> ((nI (8)) &&& 31)).toInt8.toInt32).toInt8.toInt32, tp.2 + 1 + 1 + 1) wd lx ro rs) (C := RX3) (T := TX3) (N := 2) hx hb hts hinX3 tyX3 tyX3_ok nmX3 hown hK hP (wX_D ha) hS 1 rfl rfl 1 (by decide) (hts (.fieldLink RX3 15 "TypoSuggester$Tape" "size" "I") (by decide +kernel)) (fun _ h9 => h9) rfl (by decide +kernel) rfl rfl (Nat.le_of_ble_eq_true rfl) dX3_append_39 rfl (fun H locs hP hS => ?_)
    refine lv_iinc (v := nI (0)) (lv' := [(2, .int (nI (0))), (0, .ref (a 1)), (1, .int (v))]) hx hb dX3_append_42 hl (k := 0) rfl (by decide +kernel) (by decide) rfl (fun ls hl => ?_)
    refine lv_goto (tgt := 15) hx hb dX3_append_45 (by decide) ?_
    refine lv_iload_n hx hb dX3_append_15 rfl (lv_at hl 0 rfl) ?_
    refine nz_iflt (a := 0) (tgt := 48) hx hb dX3_append_16 (by decide) (by omega) ?_
    refine lv_aload_n hx hb dX3_append_19 rfl (lv_at hl 1 rfl) ?_
    refine va_get (D := D) (ci := 3) (v := .ref (a 6)) (C := RX3) (T := TX3) (N := 2) hx hb hts hinX3 hown hK hP 1 rfl rfl 0 (by decide) (hts (.fieldLink RX3 9 "TypoSuggester$Tape" "bytes" "[B") (by decide +kernel)) (fun _ h9 => h9) rfl dX3_append_20 ?_
    refine lv_aload_n hx hb dX3_append_23 rfl (lv_at hl 1 rfl) ?_
    refine va_get (D := D) (ci := 3) (v := .int (nI (tp.2 + 1 + 1 + 1))) (C := RX3) (T := TX3) (N := 2) hx hb hts hinX3 hown hK hP 1 rfl rfl 1 (by decide) (hts (.fieldLink RX3 15 "TypoSuggester$Tape" "size" "I") (by decide +kernel)) (fun _ h9 => h9) rfl dX3_append_24 ?_
    refine lv_iload_n hx hb dX3_append_27 rfl (lv_at hl 2 rfl) ?_
    refine lv_iload_n hx hb dX3_append_28 rfl (lv_at hl 0 rfl) ?_
    refine lv_ishr hx hb dX3_append_29 ?_
    refine lv_i2b (v := (v >>> ((nI (0)) &&& 31)).toInt8.toInt32) hx hb dX3_append_30 rfl ?_
    refine nz_bastR (f := upd (upd (upd tp.1 tp.2 ((v >>> ((nI (24)) &&& 31)).toInt8.toInt32).toInt8.toInt32) (tp.2 + 1) ((v >>> ((nI (16)) &&& 31)).toInt8.toInt32).toInt8.toInt32) (tp.2 + 1 + 1) ((v >>> ((nI (8)) &&& 31)).toInt8.toInt32).toInt8.toInt32) (k := tp.2 + 1 + 1 + 1) (v := (v >>> ((nI (0)) &&& 31)).toInt8.toInt32) (ws' := wX a cs (upd (upd (upd (upd tp.1 tp.2 ((v >>> ((nI (24)) &&& 31)).toInt8.toInt32).toInt8.toInt32) (tp.2 + 1) ((v >>> ((nI (16)) &&& 31)).toInt8.toInt32).toInt8.toInt32) (tp.2 + 1 + 1) ((v >>> ((nI (8)) &&& 31)).toInt8.toInt32).toInt8.toInt32) (tp.2 + 1 + 1 + 1) ((v >>> ((nI (0)) &&& 31)).toInt8.toInt32).toInt8.toInt32, tp.2 + 1 + 1 + 1) wd lx ro rs) hx hb hK hP (wX_D ha) hS 6 0 rfl rfl (by omega) (by decide) dX3_append_31 rfl (fun H locs hP hS => ?_)
    refine lv_aload_n hx hb dX3_append_32 rfl (lv_at hl 1 rfl) ?_
    refine lv_dup hx hb dX3_append_33 rfl ?_
    refine va_get (D := D) (ci := 3) (v := .int (nI (tp.2 + 1 + 1 + 1))) (C := RX3) (T := TX3) (N := 2) hx hb hts hinX3 hown hK hP 1 rfl rfl 1 (by decide) (hts (.fieldLink RX3 15 "TypoSuggester$Tape" "size" "I") (by decide +kernel)) (fun _ h9 => h9) rfl dX3_append_34 ?_
    refine lv_iconst (v := nI 1) hx hb dX3_append_37 (by decide +kernel) ?_
    refine nz_iadd (a := tp.2 + 1 + 1 + 1) (b := 1) hx hb dX3_append_38 ?_
    refine nz_put (D := D) (ci := 3) (v := .int (nI (tp.2 + 1 + 1 + 1 + 1))) (ty := .int) (ws' := wX a cs (upd (upd (upd (upd tp.1 tp.2 ((v >>> ((nI (24)) &&& 31)).toInt8.toInt32).toInt8.toInt32) (tp.2 + 1) ((v >>> ((nI (16)) &&& 31)).toInt8.toInt32).toInt8.toInt32) (tp.2 + 1 + 1) ((v >>> ((nI (8)) &&& 31)).toInt8.toInt32).toInt8.toInt32) (tp.2 + 1 + 1 + 1) ((v >>> ((nI (0)) &&& 31)).toInt8.toInt32).toInt8.toInt32, tp.2 + 1 + 1 + 1 + 1) wd lx ro rs) (C := RX3) (T := TX3) (N := 2) hx hb hts hinX3 tyX3 tyX3_ok nmX3 hown hK hP (wX_D ha) hS 1 rfl rfl 1 (by decide) (hts (.fieldLink RX3 15 "TypoSuggester$Tape" "size" "I") (by decide +kernel)) (fun _ h9 => h9) rfl (by decide +kernel) rfl rfl (Nat.le_of_ble_eq_true rfl) dX3_append_39 rfl (fun H locs hP hS => ?_)
    refine lv_iinc (v := (-8)) (lv' := [(2, .int ((-8))), (0, .ref (a 1)), (1, .int (v))]) hx hb dX3_append_42 hl (k := 0) rfl (by decide +kernel) (by decide) rfl (fun ls hl => ?_)
    refine lv_goto (tgt := 15) hx hb dX3_append_45 (by decide) ?_
    refine lv_iload_n hx hb dX3_append_15 rfl (lv_at hl 0 rfl) ?_
    refine lv_if_lt (tgt := 48) hx hb dX3_append_16 (by decide) (fun _ => ?_) (fun z => absurd (by decide +kernel) z)
    refine lv_iconst (v := nI 1) hx hb dX3_append_48 (by decide +kernel) ?_
    have hbv : bb = true := hbb.mpr (by omega)
    subst hbv
    refine nz_top bI_t ?_
    exact hret 49 ls H locs dX3_append_49 hP hS
  · refine lv_iconst (v := nI 0) hx hb dX3_append_10 (by decide +kernel) ?_
    have hbv : bb = false := by cases bb with | false => rfl | true => exact absurd (hbb.mp rfl) (by omega)
    subst hbv
    refine nz_top bI_f ?_
    exact hret 11 ls H locs dX3_append_11 hP hS
abbrev rmX4_append : Room := { frames := 0, cells := 0, slots := 0, locals := 0 }
set_option maxHeartbeats 4000000 in
set_option maxRecDepth 100000 in
theorem mX4_append (l : Launch) (D : va_G) (a : Nat → Nat) (cs : Nat → ClassId) (tp : (Nat → Int32) × Nat) (wd : (Nat → Nat) × Nat) (lx : (Nat → Nat) × (Nat → Nat) × (Nat → Nat) × Nat) (ro : Nat → Nat) (rs : (Nat → Nat) × (Nat → Nat) × (Nat → Nat) × (Nat → Nat) × (Nat → Nat) × Nat) (ch : Nat) (bb : Bool) (ha : wInj a) (hW : WdB wd) (hch : ch < 128) (hbb : bb = true ↔ wd.2 < 24) : Met l yX4_append wsX4_append rmX4_append (wdP D vwCl (wX a cs tp wd lx ro rs) (tyX cs) [.ref (a 2), .int (nI (ch))]) (wrQ none (fun H => va_P D vwCl (wX a cs tp (bif bb then (va_up wd.1 wd.2 ch, wd.2 + 1) else wd) lx ro rs) H) (inX a)) 0 0 (inX a) := by
  obtain ⟨hW1, hW2⟩ := id hW
  refine nz_metWv (by decide) rfl (Nat.le_of_ble_eq_true rfl) ?_
  intro p e s m args below meth c Q hx hb hml hts hown hP hK hret ls hl
  have hl : lv_has ls 2 [(0, .ref (a 2)), (1, .int (nI (ch)))] := hl
  have hown : s.vm.findClass RX4 = some m.cls := hown
  have hinX4 : ∀ w ∈ u_ws RX4 TX4 2, w ∈ wsX4_append := by decide +kernel
  have hS : va_S (inX a) s.heap s.heap [] := va_S.rf
  obtain ⟨H, hH⟩ : ∃ H, H = s.heap := ⟨_, rfl⟩
  obtain ⟨locs, hlocs⟩ : ∃ locs : List Loc, locs = [] := ⟨_, rfl⟩
  have hP : va_P D vwCl (wX a cs tp wd lx ro rs) H := hH ▸ hP
  have hS : va_S (inX a) s.heap H locs := by rw [hH, hlocs]; exact va_S.rf
  suffices hgo : W p l e rmX4_append s m args below meth c H locs 0 0 Q (F0 m 0 ls []) by rw [hH, hlocs] at hgo; exact hgo
  clear hH hlocs
  refine lv_aload_n hx hb dX4_append_0 rfl (lv_at hl 0 rfl) ?_
  refine va_get (D := D) (ci := 4) (v := .int (nI (wd.2))) (C := RX4) (T := TX4) (N := 2) hx hb hts hinX4 hown hK hP 2 rfl rfl 1 (by decide) (hts (.fieldLink RX4 15 "TypoSuggester$Word" "length" "I") (by decide +kernel)) (fun _ h9 => h9) rfl dX4_append_1 ?_
  refine lv_bipush (v := nI 24) hx hb dX4_append_4 (by decide +kernel) ?_
  refine nz_cge (a := wd.2) (b := 24) (tgt := 30) hx hb dX4_append_6 (by decide) (by omega) (by omega) (fun c_6 => ?_) (fun c_6 => ?_)
  · have hbv : bb = false := by cases bb with | false => rfl | true => exact absurd (hbb.mp rfl) (by omega)
    subst hbv
    exact hret 30 ls H locs dX4_append_30 hP hS
  · refine lv_aload_n hx hb dX4_append_9 rfl (lv_at hl 0 rfl) ?_
    refine va_get (D := D) (ci := 4) (v := .ref (a 7)) (C := RX4) (T := TX4) (N := 2) hx hb hts hinX4 hown hK hP 2 rfl rfl 0 (by decide) (hts (.fieldLink RX4 9 "TypoSuggester$Word" "letters" "[B") (by decide +kernel)) (fun _ h9 => h9) rfl dX4_append_10 ?_
    refine lv_aload_n hx hb dX4_append_13 rfl (lv_at hl 0 rfl) ?_
    refine va_get (D := D) (ci := 4) (v := .int (nI (wd.2))) (C := RX4) (T := TX4) (N := 2) hx hb hts hinX4 hown hK hP 2 rfl rfl 1 (by decide) (hts (.fieldLink RX4 15 "TypoSuggester$Word" "length" "I") (by decide +kernel)) (fun _ h9 => h9) rfl dX4_append_14 ?_
    refine lv_iload_n hx hb dX4_append_17 rfl (lv_at hl 1 rfl) ?_
    refine lv_i2b (v := nI (ch)) hx hb dX4_append_18 (nz_b8 _ (by omega)).2.2 ?_
    refine nz_bast (f := wd.1) (k := wd.2) (v := ch) (ws' := wX a cs tp (va_up wd.1 wd.2 ch, wd.2) lx ro rs) hx hb hK hP (wX_D ha) hS 7 0 rfl rfl (by omega) (by decide) (by omega) dX4_append_19 rfl (fun H locs hP hS => ?_)
    refine lv_aload_n hx hb dX4_append_20 rfl (lv_at hl 0 rfl) ?_
    refine lv_dup hx hb dX4_append_21 rfl ?_
    refine va_get (D := D) (ci := 4) (v := .int (nI (wd.2))) (C := RX4) (T := TX4) (N := 2) hx hb hts hinX4 hown hK hP 2 rfl rfl 1 (by decide) (hts (.fieldLink RX4 15 "TypoSuggester$Word" "length" "I") (by decide +kernel)) (fun _ h9 => h9) rfl dX4_append_22 ?_
    refine lv_iconst (v := nI 1) hx hb dX4_append_25 (by decide +kernel) ?_
    refine nz_iadd (a := wd.2) (b := 1) hx hb dX4_append_26 ?_
    refine nz_put (D := D) (ci := 4) (v := .int (nI (wd.2 + 1))) (ty := .int) (ws' := wX a cs tp (va_up wd.1 wd.2 ch, wd.2 + 1) lx ro rs) (C := RX4) (T := TX4) (N := 2) hx hb hts hinX4 tyX4 tyX4_ok nmX4 hown hK hP (wX_D ha) hS 2 rfl rfl 1 (by decide) (hts (.fieldLink RX4 15 "TypoSuggester$Word" "length" "I") (by decide +kernel)) (fun _ h9 => h9) rfl (by decide +kernel) rfl rfl (Nat.le_of_ble_eq_true rfl) dX4_append_27 rfl (fun H locs hP hS => ?_)
    have hbv : bb = true := hbb.mpr (by omega)
    subst hbv
    exact hret 30 ls H locs dX4_append_30 hP hS
abbrev rmX5_isSmallLetter : Room := { frames := 0, cells := 0, slots := 0, locals := 0 }
set_option maxHeartbeats 4000000 in
set_option maxRecDepth 100000 in
theorem mX5_isSmallLetter (l : Launch) (D : va_G) (a : Nat → Nat) (cs : Nat → ClassId) (tp : (Nat → Int32) × Nat) (wd : (Nat → Nat) × Nat) (lx : (Nat → Nat) × (Nat → Nat) × (Nat → Nat) × Nat) (ro : Nat → Nat) (rs : (Nat → Nat) × (Nat → Nat) × (Nat → Nat) × (Nat → Nat) × (Nat → Nat) × Nat) (x : Int32) : Met l yX5_isSmallLetter wsX5_isSmallLetter rmX5_isSmallLetter (wdP D vwCl (wX a cs tp wd lx ro rs) (tyX cs) [.int (x)]) (rdQ (.int (bI (smB x)))) 0 0 (fun _ => False) := by
  refine nz_metRi (by decide) rfl (Nat.le_of_ble_eq_true rfl) (bI_nar _) ?_
  intro p e s m args below meth c Q hx hb hml hts hown hP hK hret ls hl
  have hl : lv_has ls 1 [(0, .int (x))] := hl
  have hown : s.vm.findClass RX5 = some m.cls := hown
  refine lv_iload_n hx hb dX5_isSmallLetter_0 rfl (lv_at hl 0 rfl) ?_
  refine lv_bipush (v := nI 97) hx hb dX5_isSmallLetter_1 (by decide +kernel) ?_
  refine lv_icmp_lt (tgt := 16) hx hb dX5_isSmallLetter_3 (by decide) (fun c_3 => ?_) (fun c_3 => ?_)
  · refine lv_iconst (v := nI 0) hx hb dX5_isSmallLetter_16 (by decide +kernel) ?_
    have hz : smB x = false := by unfold smB; rw [decide_eq_false_iff_not]; intro hh; first | exact hh.1 c_3 | exact hh.2 c_9
    rw [hz] at hret
    refine nz_top bI_f ?_
    exact hret 17 ls dX5_isSmallLetter_17
  · refine lv_iload_n hx hb dX5_isSmallLetter_6 rfl (lv_at hl 0 rfl) ?_
    refine lv_bipush (v := nI 122) hx hb dX5_isSmallLetter_7 (by decide +kernel) ?_
    refine lv_icmp_gt (tgt := 16) hx hb dX5_isSmallLetter_9 (by decide) (fun c_9 => ?_) (fun c_9 => ?_)
    · refine lv_iconst (v := nI 0) hx hb dX5_isSmallLetter_16 (by decide +kernel) ?_
      have hz : smB x = false := by unfold smB; rw [decide_eq_false_iff_not]; intro hh; first | exact hh.1 c_3 | exact hh.2 c_9
      rw [hz] at hret
      refine nz_top bI_f ?_
      exact hret 17 ls dX5_isSmallLetter_17
    · refine lv_iconst (v := nI 1) hx hb dX5_isSmallLetter_12 (by decide +kernel) ?_
      refine lv_goto (tgt := 17) hx hb dX5_isSmallLetter_13 (by decide) ?_
      have hz : smB x = true := by unfold smB; rw [decide_eq_true_iff]; exact ⟨c_3, c_9⟩
      rw [hz] at hret
      refine nz_top bI_t ?_
      exact hret 17 ls dX5_isSmallLetter_17
abbrev rmX5_smallLetter : Room := { frames := 1, cells := 0, slots := 0, locals := 20 }
set_option maxHeartbeats 4000000 in
set_option maxRecDepth 100000 in
theorem mX5_smallLetter (l : Launch) (D : va_G) (a : Nat → Nat) (cs : Nat → ClassId) (tp : (Nat → Int32) × Nat) (wd : (Nat → Nat) × Nat) (lx : (Nat → Nat) × (Nat → Nat) × (Nat → Nat) × Nat) (ro : Nat → Nat) (rs : (Nat → Nat) × (Nat → Nat) × (Nat → Nat) × (Nat → Nat) × (Nat → Nat) × Nat) (x : Int32) : Met l yX5_smallLetter wsX5_smallLetter rmX5_smallLetter (wdP D vwCl (wX a cs tp wd lx ro rs) (tyX cs) [.int (x)]) (rdQ (.int (smI x))) 0 0 (fun _ => False) := by
  refine nz_metRi (by decide) rfl (Nat.le_of_ble_eq_true rfl) rfl ?_
  intro p e s m args below meth c Q hx hb hml hts hown hP hK hret ls hl
  have hl : lv_has ls 1 [(0, .int (x))] := hl
  have hown : s.vm.findClass RX5 = some m.cls := hown
  refine lv_iload_n hx hb dX5_smallLetter_0 rfl (lv_at hl 0 rfl) ?_
  refine nz_callR (va_runS (As := [.int (x)]) (rest := []) ⟨hx, hb, hml, hown, hts⟩ (mX5_isSmallLetter l D a cs tp wd lx ro rs x) (va_cwS 1 hts gX5_smallLetter_X5_isSmallLetter rfl rfl rfl (by decide +kernel) ⟨Nat.le_of_ble_eq_true rfl, Nat.le_of_ble_eq_true rfl⟩) (nz_preS hK hP) rfl rfl hl.1 rfl (lv_room (Nat.le_of_ble_eq_true rfl)) dX5_smallLetter_1 ⟨Nat.zero_le _, Nat.zero_le _⟩) ?_
  refine nz_ifeqB (tgt := 9) hx hb dX5_smallLetter_4 (by decide) (fun c_4 => ?_) (fun c_4 => ?_)
  · refine lv_iload_n hx hb dX5_smallLetter_9 rfl (lv_at hl 0 rfl) ?_
    refine lv_bipush (v := nI 65) hx hb dX5_smallLetter_10 (by decide +kernel) ?_
    refine lv_icmp_lt (tgt := 31) hx hb dX5_smallLetter_12 (by decide) (fun c_12 => ?_) (fun c_12 => ?_)
    · refine lv_iconst (v := (-1)) hx hb dX5_smallLetter_31 (by decide +kernel) ?_
      have hz : smI x = (-1) := by unfold smI; rw [if_neg (by rw [c_4]; decide), if_neg (by intro hh; first | exact hh.1 c_12 | exact hh.2 c_18)]
      rw [hz] at hret
      exact hret 32 ls dX5_smallLetter_32
    · refine lv_iload_n hx hb dX5_smallLetter_15 rfl (lv_at hl 0 rfl) ?_
      refine lv_bipush (v := nI 90) hx hb dX5_smallLetter_16 (by decide +kernel) ?_
      refine lv_icmp_gt (tgt := 31) hx hb dX5_smallLetter_18 (by decide) (fun c_18 => ?_) (fun c_18 => ?_)
      · refine lv_iconst (v := (-1)) hx hb dX5_smallLetter_31 (by decide +kernel) ?_
        have hz : smI x = (-1) := by unfold smI; rw [if_neg (by rw [c_4]; decide), if_neg (by intro hh; first | exact hh.1 c_12 | exact hh.2 c_18)]
        rw [hz] at hret
        exact hret 32 ls dX5_smallLetter_32
      · refine lv_iload_n hx hb dX5_smallLetter_21 rfl (lv_at hl 0 rfl) ?_
        refine lv_bipush (v := nI 65) hx hb dX5_smallLetter_22 (by decide +kernel) ?_
        refine lv_isub hx hb dX5_smallLetter_24 ?_
        refine lv_bipush (v := nI 97) hx hb dX5_smallLetter_25 (by decide +kernel) ?_
        refine lv_iadd hx hb dX5_smallLetter_27 ?_
        refine lv_goto (tgt := 32) hx hb dX5_smallLetter_28 (by decide) ?_
        have hz : smI x = x - nI (65) + nI (97) := by unfold smI; rw [if_neg (by rw [c_4]; decide), if_pos ⟨c_12, c_18⟩]
        rw [hz] at hret
        exact hret 32 ls dX5_smallLetter_32
  · refine lv_iload_n hx hb dX5_smallLetter_7 rfl (lv_at hl 0 rfl) ?_
    have hz : smI x = x := by unfold smI; rw [if_pos c_4]
    rw [hz] at hret
    exact hret 8 ls dX5_smallLetter_8
abbrev rmX5_feed : Room := { frames := 1, cells := 0, slots := 0, locals := 22 }
set_option maxHeartbeats 4000000 in
set_option maxRecDepth 100000 in
theorem mX5_feed (l : Launch) (D : va_G) (a : Nat → Nat) (cs : Nat → ClassId) (tp : (Nat → Int32) × Nat) (wd : (Nat → Nat) × Nat) (lx : (Nat → Nat) × (Nat → Nat) × (Nat → Nat) × Nat) (ro : Nat → Nat) (rs : (Nat → Nat) × (Nat → Nat) × (Nat → Nat) × (Nat → Nat) × (Nat → Nat) × Nat) (v : Int32) (bb : Bool) (ha : wInj a) (hT : tp.2 ≤ 400) (hbb : bb = true ↔ tp.2 ≤ 396) : Met l yX5_feed wsX5_feed rmX5_feed (wdP D vwCl (wX a cs tp wd lx ro rs) (tyX cs) [.ref (a 0), .int (v)]) (wrQ (some (.int (bif bb then nI (tp.2 + 1 + 1 + 1 + 1) else (-2)))) (fun H => va_P D vwCl (wX a cs (bif bb then tpFeed tp v else tp) wd lx ro rs) H) (inX a)) 0 0 (inX a) := by
  refine nz_metWi (by decide) rfl (Nat.le_of_ble_eq_true rfl) rfl ?_
  intro p e s m args below meth c Q hx hb hml hts hown hP hK hret ls hl
  have hl : lv_has ls 2 [(0, .ref (a 0)), (1, .int (v))] := hl
  have hown : s.vm.findClass RX5 = some m.cls := hown
  have hinX5 : ∀ w ∈ u_ws RX5 TX5 5, w ∈ wsX5_feed := by decide +kernel
  have hinX3 : ∀ w ∈ u_ws RX3 TX3 2, w ∈ wsX5_feed := by decide +kernel
  have hS : va_S (inX a) s.heap s.heap [] := va_S.rf
  obtain ⟨H, hH⟩ : ∃ H, H = s.heap := ⟨_, rfl⟩
  obtain ⟨locs, hlocs⟩ : ∃ locs : List Loc, locs = [] := ⟨_, rfl⟩
  have hP : va_P D vwCl (wX a cs tp wd lx ro rs) H := hH ▸ hP
  have hS : va_S (inX a) s.heap H locs := by rw [hH, hlocs]; exact va_S.rf
  suffices hgo : W p l e rmX5_feed s m args below meth c H locs 0 0 Q (F0 m 0 ls []) by rw [hH, hlocs] at hgo; exact hgo
  clear hH hlocs
  refine lv_aload_n hx hb dX5_feed_0 rfl (lv_at hl 0 rfl) ?_
  refine va_get (D := D) (ci := 5) (v := .ref (a 1)) (C := RX5) (T := TX5) (N := 5) hx hb hts hinX5 hown hK hP 0 rfl rfl 0 (by decide) (hts (.fieldLink RX5 10 "TypoSuggester" "tape" "LTypoSuggester$Tape;") (by decide +kernel)) (fun _ h9 => h9) rfl dX5_feed_1 ?_
  refine lv_iload_n hx hb dX5_feed_4 rfl (lv_at hl 1 rfl) ?_
  refine nz_callW (va_runV (As := [.int (v)]) (rest := []) ⟨hx, hb, hml, hown, hts⟩ (mX3_append l D a cs tp wd lx ro rs v bb ha hT hbb) (cwV 1 hts gX5_feed_X3_append rfl rfl rfl (by decide +kernel) ⟨Nat.le_of_ble_eq_true rfl, Nat.le_of_ble_eq_true rfl⟩) (nz_preV (ci := 3) (q0 := 1) hK hP rfl rfl) rfl rfl hl.1 rfl (lv_room (Nat.le_of_ble_eq_true rfl)) dX5_feed_5 ⟨Nat.zero_le _, Nat.zero_le _⟩) hS (fun _ h => h) (fun H locs hP _ _ hS => ?_)
  refine nz_ifeqB (tgt := 21) hx hb dX5_feed_8 (by decide) (fun c_8 => ?_) (fun c_8 => ?_)
  · refine lv_bipush (v := (-2)) hx hb dX5_feed_21 (by decide +kernel) ?_
    subst c_8
    exact hret 23 ls H locs dX5_feed_23 hP hS
  · subst c_8
    have hP : va_P D vwCl (wX a cs (tpFeed tp v) wd lx ro rs) H := hP
    refine lv_aload_n hx hb dX5_feed_11 rfl (lv_at hl 0 rfl) ?_
    refine va_get (D := D) (ci := 5) (v := .ref (a 1)) (C := RX5) (T := TX5) (N := 5) hx hb hts hinX5 hown hK hP 0 rfl rfl 0 (by decide) (hts (.fieldLink RX5 10 "TypoSuggester" "tape" "LTypoSuggester$Tape;") (by decide +kernel)) (fun _ h9 => h9) rfl dX5_feed_12 ?_
    refine va_get (D := D) (ci := 3) (v := .int (nI ((tpFeed tp v).2))) (C := RX3) (T := TX3) (N := 2) hx hb hts hinX3 hown hK hP 1 rfl rfl 1 (by decide) (hts (.fieldLink RX5 48 "TypoSuggester$Tape" "size" "I") (by decide +kernel)) (fun _ h9 => h9) rfl dX5_feed_15 ?_
    refine lv_goto (tgt := 23) hx hb dX5_feed_18 (by decide) ?_
    exact hret 23 ls H locs dX5_feed_23 hP hS
abbrev rmX5_cut : Room := { frames := 0, cells := 0, slots := 0, locals := 0 }
set_option maxHeartbeats 4000000 in
set_option maxRecDepth 100000 in
theorem mX5_cut (l : Launch) (D : va_G) (a : Nat → Nat) (cs : Nat → ClassId) (tp : (Nat → Int32) × Nat) (wd : (Nat → Nat) × Nat) (lx : (Nat → Nat) × (Nat → Nat) × (Nat → Nat) × Nat) (ro : Nat → Nat) (rs : (Nat → Nat) × (Nat → Nat) × (Nat → Nat) × (Nat → Nat) × (Nat → Nat) × Nat) (x : Int32) (ha : wInj a) (hT : tp.2 ≤ 400) : Met l yX5_cut wsX5_cut rmX5_cut (wdP D vwCl (wX a cs tp wd lx ro rs) (tyX cs) [.ref (a 0), .int (x)]) (wrQ (some (.int (cutI tp.2 x))) (fun H => va_P D vwCl (wX a cs (tp.1, cutN tp.2 x) wd lx ro rs) H) (inX a)) 0 0 (inX a) := by
  refine nz_metWi (by decide) rfl (Nat.le_of_ble_eq_true rfl) rfl ?_
  intro p e s m args below meth c Q hx hb hml hts hown hP hK hret ls hl
  have hl : lv_has ls 3 [(0, .ref (a 0)), (1, .int (x))] := hl
  have hown : s.vm.findClass RX5 = some m.cls := hown
  have hinX5 : ∀ w ∈ u_ws RX5 TX5 5, w ∈ wsX5_cut := by decide +kernel
  have hinX3 : ∀ w ∈ u_ws RX3 TX3 2, w ∈ wsX5_cut := by decide +kernel
  have hS : va_S (inX a) s.heap s.heap [] := va_S.rf
  obtain ⟨H, hH⟩ : ∃ H, H = s.heap := ⟨_, rfl⟩
  obtain ⟨locs, hlocs⟩ : ∃ locs : List Loc, locs = [] := ⟨_, rfl⟩
  have hP : va_P D vwCl (wX a cs tp wd lx ro rs) H := hH ▸ hP
  have hS : va_S (inX a) s.heap H locs := by rw [hH, hlocs]; exact va_S.rf
  suffices hgo : W p l e rmX5_cut s m args below meth c H locs 0 0 Q (F0 m 0 ls []) by rw [hH, hlocs] at hgo; exact hgo
  clear hH hlocs
  refine lv_iload_n hx hb dX5_cut_0 rfl (lv_at hl 1 rfl) ?_
  refine lv_if_lt (tgt := 15) hx hb dX5_cut_1 (by decide) (fun c_1 => ?_) (fun c_1 => ?_)
  · have hnc : ¬ (¬ x < 0 ∧ x.toNatClampNeg ≤ tp.2) := fun h => h.1 c_1
    refine lv_iconst (v := (-1)) hx hb dX5_cut_15 (by decide +kernel) ?_
    have hz1 : cutI tp.2 x = -1 := if_neg hnc
    have hz2 : cutN tp.2 x = tp.2 := if_neg hnc
    rw [hz1, hz2] at hret
    exact hret 16 ls H locs dX5_cut_16 hP hS
  · obtain ⟨n1, hn1, rfl⟩ := nI_of c_1
    refine lv_iload_n hx hb dX5_cut_4 rfl (lv_at hl 1 rfl) ?_
    refine lv_aload_n hx hb dX5_cut_5 rfl (lv_at hl 0 rfl) ?_
    refine va_get (D := D) (ci := 5) (v := .ref (a 1)) (C := RX5) (T := TX5) (N := 5) hx hb hts hinX5 hown hK hP 0 rfl rfl 0 (by decide) (hts (.fieldLink RX5 10 "TypoSuggester" "tape" "LTypoSuggester$Tape;") (by decide +kernel)) (fun _ h9 => h9) rfl dX5_cut_6 ?_
    refine va_get (D := D) (ci := 3) (v := .int (nI (tp.2))) (C := RX3) (T := TX3) (N := 2) hx hb hts hinX3 hown hK hP 1 rfl rfl 1 (by decide) (hts (.fieldLink RX5 48 "TypoSuggester$Tape" "size" "I") (by decide +kernel)) (fun _ h9 => h9) rfl dX5_cut_9 ?_
    refine nz_cle (a := n1) (b := tp.2) (tgt := 17) hx hb dX5_cut_12 (by decide) (by omega) (by omega) (fun c_12 => ?_) (fun c_12 => ?_)
    · refine lv_aload_n hx hb dX5_cut_17 rfl (lv_at hl 0 rfl) ?_
      refine va_get (D := D) (ci := 5) (v := .ref (a 1)) (C := RX5) (T := TX5) (N := 5) hx hb hts hinX5 hown hK hP 0 rfl rfl 0 (by decide) (hts (.fieldLink RX5 10 "TypoSuggester" "tape" "LTypoSuggester$Tape;") (by decide +kernel)) (fun _ h9 => h9) rfl dX5_cut_18 ?_
      refine va_get (D := D) (ci := 3) (v := .int (nI (tp.2))) (C := RX3) (T := TX3) (N := 2) hx hb hts hinX3 hown hK hP 1 rfl rfl 1 (by decide) (hts (.fieldLink RX5 48 "TypoSuggester$Tape" "size" "I") (by decide +kernel)) (fun _ h9 => h9) rfl dX5_cut_21 ?_
      refine lv_iload_n hx hb dX5_cut_24 rfl (lv_at hl 1 rfl) ?_
      refine nz_isub (a := tp.2) (b := n1) hx hb dX5_cut_25 (by omega) ?_
      refine lv_istore_n (lv' := [(2, .int (nI (tp.2 - n1))), (0, .ref (a 0)), (1, .int (nI (n1)))]) hx hb dX5_cut_26 rfl hl (by decide) rfl (fun ls hl => ?_)
      refine lv_aload_n hx hb dX5_cut_27 rfl (lv_at hl 1 rfl) ?_
      refine va_get (D := D) (ci := 5) (v := .ref (a 1)) (C := RX5) (T := TX5) (N := 5) hx hb hts hinX5 hown hK hP 0 rfl rfl 0 (by decide) (hts (.fieldLink RX5 10 "TypoSuggester" "tape" "LTypoSuggester$Tape;") (by decide +kernel)) (fun _ h9 => h9) rfl dX5_cut_28 ?_
      refine lv_iload_n hx hb dX5_cut_31 rfl (lv_at hl 2 rfl) ?_
      refine nz_put (D := D) (ci := 3) (v := .int (nI (n1))) (ty := .int) (ws' := wX a cs (tp.1, n1) wd lx ro rs) (C := RX3) (T := TX3) (N := 2) hx hb hts hinX3 tyX3 tyX3_ok nmX3 hown hK hP (wX_D ha) hS 1 rfl rfl 1 (by decide) (hts (.fieldLink RX5 48 "TypoSuggester$Tape" "size" "I") (by decide +kernel)) (fun _ h9 => h9) rfl (by decide +kernel) rfl rfl (Nat.le_of_ble_eq_true rfl) dX5_cut_32 rfl (fun H locs hP hS => ?_)
      refine lv_iload_n hx hb dX5_cut_35 rfl (lv_at hl 0 rfl) ?_
      have hz1 : cutI tp.2 (nI n1) = nI (tp.2 - n1) := by unfold cutI; rw [nI_clamp hn1, if_pos ⟨nI_pos hn1, c_12⟩]
      have hz2 : cutN tp.2 (nI n1) = n1 := by unfold cutN; rw [nI_clamp hn1, if_pos ⟨nI_pos hn1, c_12⟩]
      rw [hz1, hz2] at hret
      exact hret 36 ls H locs dX5_cut_36 hP hS
    · have hnc : ¬ (¬ nI n1 < 0 ∧ (nI n1).toNatClampNeg ≤ tp.2) := fun h => by have := h.2; rw [nI_clamp hn1] at this; omega
      refine lv_iconst (v := (-1)) hx hb dX5_cut_15 (by decide +kernel) ?_
      have hz1 : cutI tp.2 (nI n1) = -1 := if_neg hnc
      have hz2 : cutN tp.2 (nI n1) = tp.2 := if_neg hnc
      rw [hz1, hz2] at hret
      exact hret 16 ls H locs dX5_cut_16 hP hS
