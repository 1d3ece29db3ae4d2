/-! The Result. -/
def shfR (f : Nat → Nat) (k n : Nat) : Nat → Nat := fun x => if k < x ∧ x < n then f (x - 1) else f x
def rsIns (rs : (Nat → Nat) × (Nat → Nat) × (Nat → Nat) × (Nat → Nat) × (Nat → Nat) × Nat) (q pl wt nr mo : Nat) : (Nat → Nat) × (Nat → Nat) × (Nat → Nat) × (Nat → Nat) × (Nat → Nat) × Nat :=
  (va_up (shfR rs.1 q (min (rs.2.2.2.2.2 + 1) mo)) q pl, va_up (shfR rs.2.1 q (min (rs.2.2.2.2.2 + 1) mo)) q wt, va_up (shfR rs.2.2.1 q (min (rs.2.2.2.2.2 + 1) mo)) q nr, rs.2.2.2.1, rs.2.2.2.2.1, min (rs.2.2.2.2.2 + 1) mo)
def ltrF (lx : (Nat → Nat) × (Nat → Nat) × (Nat → Nat) × Nat) (pl old : Nat → Nat) : Nat → Nat → Nat
  | 0 => old
  | i + 1 => va_cpy lx.1 (ltrF lx pl old i) (lx.2.1 (pl i)) (i * 24) (lx.2.1 (pl i + 1) - lx.2.1 (pl i))
theorem shfR_0 (f : Nat → Nat) (n : Nat) : shfR f (n - 1) n = f := by
  funext x
  unfold shfR
  rw [if_neg (by omega)]
theorem shfR_le {f : Nat → Nat} {k n x : Nat} (h : x ≤ k) : shfR f k n x = f x := by
  unfold shfR
  rw [if_neg (by omega)]
theorem shfR_step {f : Nat → Nat} {k n : Nat} (h : 0 < k) (h2 : k < n) : va_up (shfR f k n) k (shfR f k n (k - 1)) = shfR f (k - 1) n := by
  funext j
  rw [shfR_le (by omega)]
  unfold va_up shfR
  by_cases e : j = k
  · rw [if_pos e, if_pos (by omega), e]
  · rw [if_neg e]
    by_cases q : k < j ∧ j < n
    · rw [if_pos q, if_pos (by omega)]
    · rw [if_neg q, if_neg (by omega)]
/-- what bounds the result's rows -/
def RsB (rs : (Nat → Nat) × (Nat → Nat) × (Nat → Nat) × (Nat → Nat) × (Nat → Nat) × Nat) : Prop := rs.2.2.2.2.2 ≤ 50 ∧ (∀ j, rs.2.1 j ≤ 1000000000000) ∧ (∀ j, rs.2.2.2.1 j ≤ 24)
abbrev rmX2_offer : Room := { frames := 1, cells := 0, slots := 0, locals := 23 }
set_option maxHeartbeats 4000000 in
set_option maxRecDepth 100000 in
theorem mX2_offer (l : Launch) (D : va_G) (a : Nat → Nat) (cs : Nat → ClassId) (tp : (Nat → Int32) × Nat) (wd : (Nat → Nat) × Nat) (lx : (Nat → Nat) × (Nat → Nat) × (Nat → Nat) × Nat) (ro : Nat → Nat) (rs : (Nat → Nat) × (Nat → Nat) × (Nat → Nat) × (Nat → Nat) × (Nat → Nat) × Nat) (pl : Nat) (wt : Nat) (nr : Nat) (mo : Nat) (q : Nat) (bb : Bool) (ha : wInj a) (hmo : mo ≤ 50) (hcm : rs.2.2.2.2.2 ≤ mo) (hwb : ∀ j, rs.2.1 j ≤ 1000000000000) (hwt : wt ≤ 1000000000000) (hq1 : q ≤ rs.2.2.2.2.2) (hq2 : ∀ i, q ≤ i → i < rs.2.2.2.2.2 → rs.2.1 i < wt) (hq3 : 0 < q → wt ≤ rs.2.1 (q - 1)) (hbb : bb = true ↔ q < mo) : Met l yX2_offer wsX2_offer rmX2_offer (wdP D vwCl (wX a cs tp wd lx ro rs) (tyX cs) [.ref (a 5), .int (nI (pl)), .long (lN (wt)), .int (nI (nr)), .int (nI (mo))]) (wrQ none (fun H => va_P D vwCl (wX a cs tp wd lx ro (bif bb then rsIns rs q pl wt nr mo else rs)) H) (inX a)) 0 0 (inX a) := by
  refine nz_metWv (by decide) rfl (Nat.le_of_ble_eq_true rfl) ?_
  intro p e s m args below meth c Q hx hb hml hts hown hP hK hret ls hl
  have hl : lv_has ls 8 [(0, .ref (a 5)), (1, .int (nI (pl))), (2, .long (lN (wt))), (4, .int (nI (nr))), (5, .int (nI (mo)))] := hl
  have hown : s.vm.findClass RX2 = some m.cls := hown
  have hinX2 : ∀ w ∈ u_ws RX2 TX2 6, w ∈ wsX2_offer := by decide +kernel
  have hS : va_S (inX a) s.heap s.heap [] := va_S.rf
  obtain ⟨H, hH⟩ : ∃ H, H = s.heap := ⟨_, rfl⟩
  obtain ⟨locs, hlocs⟩ : ∃ locs : List Loc, locs = [] := ⟨_, rfl⟩
  have hP : va_P D vwCl (wX a cs tp wd lx ro rs) H := hH ▸ hP
  have hS : va_S (inX a) s.heap H locs := by rw [hH, hlocs]; exact va_S.rf
  suffices hgo : W p l e rmX2_offer s m args below meth c H locs 0 0 Q (F0 m 0 ls []) by rw [hH, hlocs] at hgo; exact hgo
  clear hH hlocs
  refine lv_aload_n hx hb dX2_offer_0 rfl (lv_at hl 0 rfl) ?_
  refine va_get (D := D) (ci := 2) (v := .int (nI (rs.2.2.2.2.2))) (C := RX2) (T := TX2) (N := 6) hx hb hts hinX2 hown hK hP 5 rfl rfl 5 (by decide) (hts (.fieldLink RX2 29 "TypoSuggester$Result" "count" "I") (by decide +kernel)) (fun _ h9 => h9) rfl dX2_offer_1 ?_
  refine lv_istore (lv' := [(6, .int (nI (rs.2.2.2.2.2))), (0, .ref (a 5)), (1, .int (nI (pl))), (2, .long (lN (wt))), (4, .int (nI (nr))), (5, .int (nI (mo)))]) hx hb dX2_offer_4 hl (by decide) rfl (fun ls hl => ?_)
  have join : ∀ (H : Heap) (locs : List Loc), va_P D vwCl (wX a cs tp wd lx ro rs) H → va_S (inX a) s.heap H locs → ∀ ls : Array Slot, lv_has ls 8 [(0, .ref (a 5)), (1, .int (nI (pl))), (2, .long (lN (wt))), (4, .int (nI (nr))), (5, .int (nI (mo))), (6, .int (nI (q)))] → W p l e rmX2_offer s m args below meth c H locs 0 0 Q (F0 m 31 ls []) := by
    intro  H locs hP hS ls hl
    refine lv_iload hx hb dX2_offer_31 (lv_at hl 5 rfl) ?_
    refine lv_iload hx hb dX2_offer_33 (lv_at hl 4 rfl) ?_
    refine nz_clt (a := q) (b := mo) (tgt := 39) hx hb dX2_offer_35 (by decide) (by omega) (by omega) (fun c_35 => ?_) (fun c_35 => ?_)
    · refine lv_aload_n hx hb dX2_offer_39 rfl (lv_at hl 0 rfl) ?_
      refine lv_aload_n hx hb dX2_offer_40 rfl (lv_at hl 0 rfl) ?_
      refine va_get (D := D) (ci := 2) (v := .int (nI (rs.2.2.2.2.2))) (C := RX2) (T := TX2) (N := 6) hx hb hts hinX2 hown hK hP 5 rfl rfl 5 (by decide) (hts (.fieldLink RX2 29 "TypoSuggester$Result" "count" "I") (by decide +kernel)) (fun _ h9 => h9) rfl dX2_offer_41 ?_
      refine lv_iconst (v := nI 1) hx hb dX2_offer_44 (by decide +kernel) ?_
      refine nz_iadd (a := rs.2.2.2.2.2) (b := 1) hx hb dX2_offer_45 ?_
      refine lv_iload hx hb dX2_offer_46 (lv_at hl 4 rfl) ?_
      refine nz_mmin (a := rs.2.2.2.2.2 + 1) (b := mo) hx hb (hml.trans hl.1.symm) hown (hts (.methodLink RX2 33 Lib.Math.min.name) (by decide +kernel)) (hts (.static Lib.Math.min.name) (by decide +kernel)) (hts (.initialized "java/lang/Math") (by decide +kernel)) (hts (.code Lib.Math.min.name Lib.Math.min.code 2 (some .int)) (by decide +kernel)) (Nat.le_of_ble_eq_true rfl) (Nat.le_of_ble_eq_true rfl) (Nat.zero_le _) (Nat.zero_le _) (by omega) (by omega) dX2_offer_48 ?_
      refine nz_put (D := D) (ci := 2) (v := .int (nI (min (rs.2.2.2.2.2 + 1) mo))) (ty := .int) (ws' := wX a cs tp wd lx ro (rs.1, rs.2.1, rs.2.2.1, rs.2.2.2.1, rs.2.2.2.2.1, min (rs.2.2.2.2.2 + 1) mo)) (C := RX2) (T := TX2) (N := 6) hx hb hts hinX2 tyX2 tyX2_ok nmX2 hown hK hP (wX_D ha) hS 5 rfl rfl 5 (by decide) (hts (.fieldLink RX2 29 "TypoSuggester$Result" "count" "I") (by decide +kernel)) (fun _ h9 => h9) rfl (by decide +kernel) rfl rfl (Nat.le_of_ble_eq_true rfl) dX2_offer_51 rfl (fun H locs hP hS => ?_)
      refine lv_aload_n hx hb dX2_offer_54 rfl (lv_at hl 0 rfl) ?_
      refine va_get (D := D) (ci := 2) (v := .int (nI (min (rs.2.2.2.2.2 + 1) mo))) (C := RX2) (T := TX2) (N := 6) hx hb hts hinX2 hown hK hP 5 rfl rfl 5 (by decide) (hts (.fieldLink RX2 29 "TypoSuggester$Result" "count" "I") (by decide +kernel)) (fun _ h9 => h9) rfl dX2_offer_55 ?_
      refine lv_iconst (v := nI 1) hx hb dX2_offer_58 (by decide +kernel) ?_
      refine nz_isub (a := min (rs.2.2.2.2.2 + 1) mo) (b := 1) hx hb dX2_offer_59 (by omega) ?_
      refine lv_istore (lv' := [(7, .int (nI ((min (rs.2.2.2.2.2 + 1) mo) - 1))), (0, .ref (a 5)), (1, .int (nI (pl))), (2, .long (lN (wt))), (4, .int (nI (nr))), (5, .int (nI (mo))), (6, .int (nI (q)))]) hx hb dX2_offer_60 hl (by decide) rfl (fun ls hl => ?_)
      have hP : va_P D vwCl (wX a cs tp wd lx ro (shfR rs.1 (min (rs.2.2.2.2.2 + 1) mo - 1) (min (rs.2.2.2.2.2 + 1) mo), shfR rs.2.1 (min (rs.2.2.2.2.2 + 1) mo - 1) (min (rs.2.2.2.2.2 + 1) mo), shfR rs.2.2.1 (min (rs.2.2.2.2.2 + 1) mo - 1) (min (rs.2.2.2.2.2 + 1) mo), rs.2.2.2.1, rs.2.2.2.2.1, min (rs.2.2.2.2.2 + 1) mo)) H := by rw [shfR_0, shfR_0, shfR_0]; exact hP
      have loop3 : ∀ (fuel : Nat) (k : Nat), (q ≤ k) → (k ≤ min (rs.2.2.2.2.2 + 1) mo - 1) → k < fuel → ∀ (H : Heap) (locs : List Loc), va_P D vwCl (wX a cs tp wd lx ro (shfR rs.1 k (min (rs.2.2.2.2.2 + 1) mo), shfR rs.2.1 k (min (rs.2.2.2.2.2 + 1) mo), shfR rs.2.2.1 k (min (rs.2.2.2.2.2 + 1) mo), rs.2.2.2.1, rs.2.2.2.2.1, min (rs.2.2.2.2.2 + 1) mo)) H → va_S (inX a) s.heap H locs → ∀ ls : Array Slot, lv_has ls 8 [(0, .ref (a 5)), (1, .int (nI (pl))), (2, .long (lN (wt))), (4, .int (nI (nr))), (5, .int (nI (mo))), (6, .int (nI (q))), (7, .int (nI (k)))] → W p l e rmX2_offer s m args below meth c H locs 0 0 Q (F0 m 62 ls []) := by
        intro fuel
        induction fuel with
        | zero => intro k hk1 hk2 hf; exact absurd hf (Nat.not_lt_zero _)
        | succ fuel ih =>
          intro k hk1 hk2 hf H locs hP hS ls hl
          refine lv_iload hx hb dX2_offer_62 (lv_at hl 6 rfl) ?_
          refine lv_iload hx hb dX2_offer_64 (lv_at hl 5 rfl) ?_
          refine nz_cle (a := k) (b := q) (tgt := 123) hx hb dX2_offer_66 (by decide) (by omega) (by omega) (fun c_66 => ?_) (fun c_66 => ?_)
          · rw [show k = q by omega] at hP
            refine lv_aload_n hx hb dX2_offer_123 rfl (lv_at hl 0 rfl) ?_
            refine va_get (D := D) (ci := 2) (v := .ref (a 12)) (C := RX2) (T := TX2) (N := 6) hx hb hts hinX2 hown hK hP 5 rfl rfl 0 (by decide) (hts (.fieldLink RX2 9 "TypoSuggester$Result" "places" "[I") (by decide +kernel)) (fun _ h9 => h9) rfl dX2_offer_124 ?_
            refine lv_iload hx hb dX2_offer_127 (lv_at hl 5 rfl) ?_
            refine lv_iload_n hx hb dX2_offer_129 rfl (lv_at hl 1 rfl) ?_
            refine nz_iast (f := shfR rs.1 q (min (rs.2.2.2.2.2 + 1) mo)) (k := q) (v := pl) (ws' := wX a cs tp wd lx ro (va_up (shfR rs.1 q (min (rs.2.2.2.2.2 + 1) mo)) q pl, shfR rs.2.1 q (min (rs.2.2.2.2.2 + 1) mo), shfR rs.2.2.1 q (min (rs.2.2.2.2.2 + 1) mo), rs.2.2.2.1, rs.2.2.2.2.1, min (rs.2.2.2.2.2 + 1) mo)) hx hb hK hP (wX_D ha) hS 12 1 rfl rfl (by omega) (by decide) dX2_offer_130 rfl (fun H locs hP hS => ?_)
            refine lv_aload_n hx hb dX2_offer_131 rfl (lv_at hl 0 rfl) ?_
            refine va_get (D := D) (ci := 2) (v := .ref (a 13)) (C := RX2) (T := TX2) (N := 6) hx hb hts hinX2 hown hK hP 5 rfl rfl 1 (by decide) (hts (.fieldLink RX2 15 "TypoSuggester$Result" "weights" "[J") (by decide +kernel)) (fun _ h9 => h9) rfl dX2_offer_132 ?_
            refine lv_iload hx hb dX2_offer_135 (lv_at hl 5 rfl) ?_
            refine lv_lload_n hx hb dX2_offer_137 rfl (lv_at hl 2 rfl) ?_
            refine nz_last (f := shfR rs.2.1 q (min (rs.2.2.2.2.2 + 1) mo)) (k := q) (v := wt) (ws' := wX a cs tp wd lx ro (va_up (shfR rs.1 q (min (rs.2.2.2.2.2 + 1) mo)) q pl, va_up (shfR rs.2.1 q (min (rs.2.2.2.2.2 + 1) mo)) q wt, shfR rs.2.2.1 q (min (rs.2.2.2.2.2 + 1) mo), rs.2.2.2.1, rs.2.2.2.2.1, min (rs.2.2.2.2.2 + 1) mo)) hx hb hK hP (wX_D ha) hS 13 2 rfl rfl (by omega) (by decide) dX2_offer_138 rfl (fun H locs hP hS => ?_)
            refine lv_aload_n hx hb dX2_offer_139 rfl (lv_at hl 0 rfl) ?_
            refine va_get (D := D) (ci := 2) (v := .ref (a 14)) (C := RX2) (T := TX2) (N := 6) hx hb hts hinX2 hown hK hP 5 rfl rfl 2 (by decide) (hts (.fieldLink RX2 19 "TypoSuggester$Result" "nearnesses" "[I") (by decide +kernel)) (fun _ h9 => h9) rfl dX2_offer_140 ?_
            refine lv_iload hx hb dX2_offer_143 (lv_at hl 5 rfl) ?_
            refine lv_iload hx hb dX2_offer_145 (lv_at hl 3 rfl) ?_
            refine nz_iast (f := shfR rs.2.2.1 q (min (rs.2.2.2.2.2 + 1) mo)) (k := q) (v := nr) (ws' := wX a cs tp wd lx ro (va_up (shfR rs.1 q (min (rs.2.2.2.2.2 + 1) mo)) q pl, va_up (shfR rs.2.1 q (min (rs.2.2.2.2.2 + 1) mo)) q wt, va_up (shfR rs.2.2.1 q (min (rs.2.2.2.2.2 + 1) mo)) q nr, rs.2.2.2.1, rs.2.2.2.2.1, min (rs.2.2.2.2.2 + 1) mo)) hx hb hK hP (wX_D ha) hS 14 1 rfl rfl (by omega) (by decide) dX2_offer_147 rfl (fun H locs hP hS => ?_)
            have hbv : bb = true := hbb.mpr (by omega)
            subst hbv
            exact hret 148 ls H locs dX2_offer_148 hP hS
          · refine lv_aload_n hx hb dX2_offer_69 rfl (lv_at hl 0 rfl) ?_
            refine va_get (D := D) (ci := 2) (v := .ref (a 12)) (C := RX2) (T := TX2) (N := 6) hx hb hts hinX2 hown hK hP 5 rfl rfl 0 (by decide) (hts (.fieldLink RX2 9 "TypoSuggester$Result" "places" "[I") (by decide +kernel)) (fun _ h9 => h9) rfl dX2_offer_70 ?_
            refine lv_iload hx hb dX2_offer_73 (lv_at hl 6 rfl) ?_
            refine lv_aload_n hx hb dX2_offer_75 rfl (lv_at hl 0 rfl) ?_
            refine va_get (D := D) (ci := 2) (v := .ref (a 12)) (C := RX2) (T := TX2) (N := 6) hx hb hts hinX2 hown hK hP 5 rfl rfl 0 (by decide) (hts (.fieldLink RX2 9 "TypoSuggester$Result" "places" "[I") (by decide +kernel)) (fun _ h9 => h9) rfl dX2_offer_76 ?_
            refine lv_iload hx hb dX2_offer_79 (lv_at hl 6 rfl) ?_
            refine lv_iconst (v := nI 1) hx hb dX2_offer_81 (by decide +kernel) ?_
            refine nz_isub (a := k) (b := 1) hx hb dX2_offer_82 (by omega) ?_
            refine nz_iald (f := shfR rs.1 k (min (rs.2.2.2.2.2 + 1) mo)) (k := k - 1) hx hb hK hP 12 1 rfl rfl (by omega) (by decide) dX2_offer_83 ?_
            refine nz_iast (f := shfR rs.1 k (min (rs.2.2.2.2.2 + 1) mo)) (k := k) (v := (shfR rs.1 k (min (rs.2.2.2.2.2 + 1) mo)) (k - 1)) (ws' := wX a cs tp wd lx ro (va_up (shfR rs.1 k (min (rs.2.2.2.2.2 + 1) mo)) k ((shfR rs.1 k (min (rs.2.2.2.2.2 + 1) mo)) (k - 1)), shfR rs.2.1 k (min (rs.2.2.2.2.2 + 1) mo), shfR rs.2.2.1 k (min (rs.2.2.2.2.2 + 1) mo), rs.2.2.2.1, rs.2.2.2.2.1, min (rs.2.2.2.2.2 + 1) mo)) hx hb hK hP (wX_D ha) hS 12 1 rfl rfl (by omega) (by decide) dX2_offer_84 rfl (fun H locs hP hS => ?_)
            have e_1 : va_up (shfR rs.1 k (min (rs.2.2.2.2.2 + 1) mo)) k ((shfR rs.1 k (min (rs.2.2.2.2.2 + 1) mo)) (k - 1)) = shfR rs.1 (k - 1) (min (rs.2.2.2.2.2 + 1) mo) := shfR_step (by omega) (by omega)
            rw [e_1] at hP
            refine lv_aload_n hx hb dX2_offer_85 rfl (lv_at hl 0 rfl) ?_
            refine va_get (D := D) (ci := 2) (v := .ref (a 13)) (C := RX2) (T := TX2) (N := 6) hx hb hts hinX2 hown hK hP 5 rfl rfl 1 (by decide) (hts (.fieldLink RX2 15 "TypoSuggester$Result" "weights" "[J") (by decide +kernel)) (fun _ h9 => h9) rfl dX2_offer_86 ?_
            refine lv_iload hx hb dX2_offer_89 (lv_at hl 6 rfl) ?_
            refine lv_aload_n hx hb dX2_offer_91 rfl (lv_at hl 0 rfl) ?_
            refine va_get (D := D) (ci := 2) (v := .ref (a 13)) (C := RX2) (T := TX2) (N := 6) hx hb hts hinX2 hown hK hP 5 rfl rfl 1 (by decide) (hts (.fieldLink RX2 15 "TypoSuggester$Result" "weights" "[J") (by decide +kernel)) (fun _ h9 => h9) rfl dX2_offer_92 ?_
            refine lv_iload hx hb dX2_offer_95 (lv_at hl 6 rfl) ?_
            refine lv_iconst (v := nI 1) hx hb dX2_offer_97 (by decide +kernel) ?_
            refine nz_isub (a := k) (b := 1) hx hb dX2_offer_98 (by omega) ?_
            refine nz_lald (f := shfR rs.2.1 k (min (rs.2.2.2.2.2 + 1) mo)) (k := k - 1) hx hb hK hP 13 2 rfl rfl (by omega) (by decide) dX2_offer_99 ?_
            refine nz_last (f := shfR rs.2.1 k (min (rs.2.2.2.2.2 + 1) mo)) (k := k) (v := (shfR rs.2.1 k (min (rs.2.2.2.2.2 + 1) mo)) (k - 1)) (ws' := wX a cs tp wd lx ro (shfR rs.1 (k - 1) (min (rs.2.2.2.2.2 + 1) mo), va_up (shfR rs.2.1 k (min (rs.2.2.2.2.2 + 1) mo)) k ((shfR rs.2.1 k (min (rs.2.2.2.2.2 + 1) mo)) (k - 1)), shfR rs.2.2.1 k (min (rs.2.2.2.2.2 + 1) mo), rs.2.2.2.1, rs.2.2.2.2.1, min (rs.2.2.2.2.2 + 1) mo)) hx hb hK hP (wX_D ha) hS 13 2 rfl rfl (by omega) (by decide) dX2_offer_100 rfl (fun H locs hP hS => ?_)
            have e_2 : va_up (shfR rs.2.1 k (min (rs.2.2.2.2.2 + 1) mo)) k ((shfR rs.2.1 k (min (rs.2.2.2.2.2 + 1) mo)) (k - 1)) = shfR rs.2.1 (k - 1) (min (rs.2.2.2.2.2 + 1) mo) := shfR_step (by omega) (by omega)
            rw [e_2] at hP
            refine lv_aload_n hx hb dX2_offer_101 rfl (lv_at hl 0 rfl) ?_
            refine va_get (D := D) (ci := 2) (v := .ref (a 14)) (C := RX2) (T := TX2) (N := 6) hx hb hts hinX2 hown hK hP 5 rfl rfl 2 (by decide) (hts (.fieldLink RX2 19 "TypoSuggester$Result" "nearnesses" "[I") (by decide +kernel)) (fun _ h9 => h9) rfl dX2_offer_102 ?_
            refine lv_iload hx hb dX2_offer_105 (lv_at hl 6 rfl) ?_
            refine lv_aload_n hx hb dX2_offer_107 rfl (lv_at hl 0 rfl) ?_
            refine va_get (D := D) (ci := 2) (v := .ref (a 14)) (C := RX2) (T := TX2) (N := 6) hx hb hts hinX2 hown hK hP 5 rfl rfl 2 (by decide) (hts (.fieldLink RX2 19 "TypoSuggester$Result" "nearnesses" "[I") (by decide +kernel)) (fun _ h9 => h9) rfl dX2_offer_108 ?_
            refine lv_iload hx hb dX2_offer_111 (lv_at hl 6 rfl) ?_
            refine lv_iconst (v := nI 1) hx hb dX2_offer_113 (by decide +kernel) ?_
            refine nz_isub (a := k) (b := 1) hx hb dX2_offer_114 (by omega) ?_
            refine nz_iald (f := shfR rs.2.2.1 k (min (rs.2.2.2.2.2 + 1) mo)) (k := k - 1) hx hb hK hP 14 1 rfl rfl (by omega) (by decide) dX2_offer_115 ?_
            refine nz_iast (f := shfR rs.2.2.1 k (min (rs.2.2.2.2.2 + 1) mo)) (k := k) (v := (shfR rs.2.2.1 k (min (rs.2.2.2.2.2 + 1) mo)) (k - 1)) (ws' := wX a cs tp wd lx ro (shfR rs.1 (k - 1) (min (rs.2.2.2.2.2 + 1) mo), shfR rs.2.1 (k - 1) (min (rs.2.2.2.2.2 + 1) mo), va_up (shfR rs.2.2.1 k (min (rs.2.2.2.2.2 + 1) mo)) k ((shfR rs.2.2.1 k (min (rs.2.2.2.2.2 + 1) mo)) (k - 1)), rs.2.2.2.1, rs.2.2.2.2.1, min (rs.2.2.2.2.2 + 1) mo)) hx hb hK hP (wX_D ha) hS 14 1 rfl rfl (by omega) (by decide) dX2_offer_116 rfl (fun H locs hP hS => ?_)
            have e_3 : va_up (shfR rs.2.2.1 k (min (rs.2.2.2.2.2 + 1) mo)) k ((shfR rs.2.2.1 k (min (rs.2.2.2.2.2 + 1) mo)) (k - 1)) = shfR rs.2.2.1 (k - 1) (min (rs.2.2.2.2.2 + 1) mo) := shfR_step (by omega) (by omega)
            rw [e_3] at hP
            refine lv_iinc (v := nI (k - 1)) (lv' := [(7, .int (nI (k - 1))), (0, .ref (a 5)), (1, .int (nI (pl))), (2, .long (lN (wt))), (4, .int (nI (nr))), (5, .int (nI (mo))), (6, .int (nI (q)))]) hx hb dX2_offer_117 hl (k := 6) rfl (nz_incm (by omega)) (by decide) rfl (fun ls hl => ?_)
            refine lv_goto (tgt := 62) hx hb dX2_offer_120 (by decide) ?_
            exact ih (k - 1) (by omega) (by omega) (by omega) H locs hP hS ls (lv_sub hl [1, 2, 3, 4, 5, 6, 0] rfl)
      exact loop3 ((min (rs.2.2.2.2.2 + 1) mo - 1) + 1) (min (rs.2.2.2.2.2 + 1) mo - 1) (by omega) (Nat.le_refl _) (Nat.lt_succ_self _) H locs hP hS ls (lv_sub hl [1, 2, 3, 4, 5, 6, 0] rfl)
    · have hbv : bb = false := by cases bb with | false => rfl | true => exact absurd (hbb.mp rfl) (by omega)
      subst hbv
      exact hret 38 ls H locs dX2_offer_38 hP hS
  have loop : ∀ (fuel : Nat) (k : Nat), (q ≤ k) → (k ≤ rs.2.2.2.2.2) → k < fuel → ∀ (H : Heap) (locs : List Loc), va_P D vwCl (wX a cs tp wd lx ro rs) H → va_S (inX a) s.heap H locs → ∀ ls : Array Slot, lv_has ls 8 [(0, .ref (a 5)), (1, .int (nI (pl))), (2, .long (lN (wt))), (4, .int (nI (nr))), (5, .int (nI (mo))), (6, .int (nI (k)))] → W p l e rmX2_offer s m args below meth c H locs 0 0 Q (F0 m 6 ls []) := by
    intro fuel
    induction fuel with
    | zero => intro k hk1 hk2 hf; exact absurd hf (Nat.not_lt_zero _)
    | succ fuel ih =>
      intro k hk1 hk2 hf H locs hP hS ls hl
      have hwb := hwb (k - 1)
      refine lv_iload hx hb dX2_offer_6 (lv_at hl 5 rfl) ?_
      refine nz_ifle (a := k) (tgt := 31) hx hb dX2_offer_8 (by decide) (by omega) (fun c_8 => ?_) (fun c_8 => ?_)
      · have hkq : k = q := by omega
        subst hkq
        exact join  H locs hP hS ls (lv_sub hl [0, 1, 2, 3, 4, 5] rfl)
      · refine lv_aload_n hx hb dX2_offer_11 rfl (lv_at hl 0 rfl) ?_
        refine va_get (D := D) (ci := 2) (v := .ref (a 13)) (C := RX2) (T := TX2) (N := 6) hx hb hts hinX2 hown hK hP 5 rfl rfl 1 (by decide) (hts (.fieldLink RX2 15 "TypoSuggester$Result" "weights" "[J") (by decide +kernel)) (fun _ h9 => h9) rfl dX2_offer_12 ?_
        refine lv_iload hx hb dX2_offer_15 (lv_at hl 5 rfl) ?_
        refine lv_iconst (v := nI 1) hx hb dX2_offer_17 (by decide +kernel) ?_
        refine nz_isub (a := k) (b := 1) hx hb dX2_offer_18 (by omega) ?_
        refine nz_lald (f := rs.2.1) (k := k - 1) hx hb hK hP 13 2 rfl rfl (by omega) (by decide) dX2_offer_19 ?_
        refine lv_lload_n hx hb dX2_offer_20 rfl (lv_at hl 2 rfl) ?_
        refine W.lcmp hx hb dX2_offer_21 ?_
        refine nz_lge (a := rs.2.1 (k - 1)) (b := wt) (tgt := 31) hx hb dX2_offer_22 (by decide) (by omega) (by omega) (fun c_22 => ?_) (fun c_22 => ?_)
        · have hkq : k = q := by
            rcases Nat.lt_or_ge q k with h | h
            · have := hq2 (k - 1) (by omega) (by omega)
              omega
            · omega
          subst hkq
          exact join  H locs hP hS ls (lv_sub hl [0, 1, 2, 3, 4, 5] rfl)
        · have hkq : q < k := by
            rcases Nat.lt_or_ge q k with h | h
            · exact h
            · have h2 : k = q := by omega
              have := hq3 (by omega)
              rw [h2] at c_22
              omega
          refine lv_iinc (v := nI (k - 1)) (lv' := [(6, .int (nI (k - 1))), (0, .ref (a 5)), (1, .int (nI (pl))), (2, .long (lN (wt))), (4, .int (nI (nr))), (5, .int (nI (mo)))]) hx hb dX2_offer_25 hl (k := 5) rfl (nz_incm (by omega)) (by decide) rfl (fun ls hl => ?_)
          refine lv_goto (tgt := 6) hx hb dX2_offer_28 (by decide) ?_
          exact ih (k - 1) (by omega) (by omega) (by omega) H locs hP hS ls (lv_sub hl [1, 2, 3, 4, 5, 0] rfl)
  exact loop (rs.2.2.2.2.2 + 1) rs.2.2.2.2.2 hq1 (Nat.le_refl _) (Nat.lt_succ_self _) H locs hP hS ls (lv_sub hl [1, 2, 3, 4, 5, 0] rfl)
abbrev rmX2_keepLetters : Room := { frames := 1, cells := 0, slots := 0, locals := 30 }
set_option maxHeartbeats 4000000 in
set_option maxRecDepth 100000 in
theorem mX2_keepLetters (l : Launch) (D : va_G) (a : Nat → Nat) (cs : Nat → ClassId) (tp : (Nat → Int32) × Nat) (wd : (Nat → Nat) × Nat) (lx : (Nat → Nat) × (Nat → Nat) × (Nat → Nat) × Nat) (ro : Nat → Nat) (rs : (Nat → Nat) × (Nat → Nat) × (Nat → Nat) × (Nat → Nat) × (Nat → Nat) × Nat) (ha : wInj a) (hB : LxB lx) (hcn : rs.2.2.2.2.2 ≤ 50) (hpl : ∀ i, i < rs.2.2.2.2.2 → rs.1 i < lx.2.2.2) (hz24 : ∀ i, i < lx.2.2.2 → lx.2.1 (i + 1) - lx.2.1 i ≤ 24) : Met l yX2_keepLetters wsX2_keepLetters rmX2_keepLetters (wdP D vwCl (wX a cs tp wd lx ro rs) (tyX cs) [.ref (a 5), .ref (a 3)]) (wrQ none (fun H => va_P D vwCl (wX a cs tp wd lx ro (rs.1, rs.2.1, rs.2.2.1, mixR (fun x => lx.2.1 (rs.1 x + 1) - lx.2.1 (rs.1 x)) rs.2.2.2.1 rs.2.2.2.2.2, ltrF lx rs.1 rs.2.2.2.2.1 rs.2.2.2.2.2, rs.2.2.2.2.2)) H) (inX a)) 0 0 (inX a) := by
  obtain ⟨hB1, hB2, hB3, hB4, hB5⟩ := id hB
  refine nz_metWv (by decide) rfl (Nat.le_of_ble_eq_true rfl) ?_
  intro p e s m args below meth c Q hx hb hml hts hown hP hK hret ls hl
  have hl : lv_has ls 4 [(0, .ref (a 5)), (1, .ref (a 3))] := hl
  have hown : s.vm.findClass RX2 = some m.cls := hown
  have hinX2 : ∀ w ∈ u_ws RX2 TX2 6, w ∈ wsX2_keepLetters := by decide +kernel
  have hinX0 : ∀ w ∈ u_ws RX0 TX0 4, w ∈ wsX2_keepLetters := by decide +kernel
  have hS : va_S (inX a) s.heap s.heap [] := va_S.rf
  obtain ⟨H, hH⟩ : ∃ H, H = s.heap := ⟨_, rfl⟩
  obtain ⟨locs, hlocs⟩ : ∃ locs : List Loc, locs = [] := ⟨_, rfl⟩
  have hP : va_P D vwCl (wX a cs tp wd lx ro rs) H := hH ▸ hP
  have hS : va_S (inX a) s.heap H locs := by rw [hH, hlocs]; exact va_S.rf
  suffices hgo : W p l e rmX2_keepLetters s m args below meth c H locs 0 0 Q (F0 m 0 ls []) by rw [hH, hlocs] at hgo; exact hgo
  clear hH hlocs
  refine lv_iconst (v := nI 0) hx hb dX2_keepLetters_0 (by decide +kernel) ?_
  refine lv_istore_n (lv' := [(2, .int (nI (0))), (0, .ref (a 5)), (1, .ref (a 3))]) hx hb dX2_keepLetters_1 rfl hl (by decide) rfl (fun ls hl => ?_)
  have hP : va_P D vwCl (wX a cs tp wd lx ro (rs.1, rs.2.1, rs.2.2.1, mixR (fun x => lx.2.1 (rs.1 x + 1) - lx.2.1 (rs.1 x)) rs.2.2.2.1 0, ltrF lx rs.1 rs.2.2.2.2.1 0, rs.2.2.2.2.2)) H := by rw [mixR_0]; exact hP
  have loop : ∀ (fuel : Nat) (k : Nat), (k ≤ rs.2.2.2.2.2) → rs.2.2.2.2.2 - k < fuel → ∀ (H : Heap) (locs : List Loc), va_P D vwCl (wX a cs tp wd lx ro (rs.1, rs.2.1, rs.2.2.1, mixR (fun x => lx.2.1 (rs.1 x + 1) - lx.2.1 (rs.1 x)) rs.2.2.2.1 k, ltrF lx rs.1 rs.2.2.2.2.1 k, rs.2.2.2.2.2)) H → va_S (inX a) s.heap H locs → ∀ ls : Array Slot, lv_has ls 4 [(0, .ref (a 5)), (1, .ref (a 3)), (2, .int (nI (k)))] → W p l e rmX2_keepLetters s m args below meth c H locs 0 0 Q (F0 m 2 ls []) := by
    intro fuel
    induction fuel with
    | zero => intro k hk hf; exact absurd hf (Nat.not_lt_zero _)
    | succ fuel ih =>
      intro k hk hf H locs hP hS ls hl
      refine lv_iload_n hx hb dX2_keepLetters_2 rfl (lv_at hl 2 rfl) ?_
      refine lv_aload_n hx hb dX2_keepLetters_3 rfl (lv_at hl 0 rfl) ?_
      refine va_get (D := D) (ci := 2) (v := .int (nI (rs.2.2.2.2.2))) (C := RX2) (T := TX2) (N := 6) hx hb hts hinX2 hown hK hP 5 rfl rfl 5 (by decide) (hts (.fieldLink RX2 29 "TypoSuggester$Result" "count" "I") (by decide +kernel)) (fun _ h9 => h9) rfl dX2_keepLetters_4 ?_
      refine nz_cge (a := k) (b := rs.2.2.2.2.2) (tgt := 61) hx hb dX2_keepLetters_7 (by decide) (by omega) (by omega) (fun c_7 => ?_) (fun c_7 => ?_)
      · rw [show k = rs.2.2.2.2.2 by omega] at hP
        exact hret 61 ls H locs dX2_keepLetters_61 hP hS
      · have hp1 := hpl k c_7
        have hp2 := hz24 _ hp1
        have hp3 := hB3 (rs.1 k + 1)
        have hp4 := hB2 _ hp1
        refine lv_aload_n hx hb dX2_keepLetters_10 rfl (lv_at hl 0 rfl) ?_
        refine va_get (D := D) (ci := 2) (v := .ref (a 12)) (C := RX2) (T := TX2) (N := 6) hx hb hts hinX2 hown hK hP 5 rfl rfl 0 (by decide) (hts (.fieldLink RX2 9 "TypoSuggester$Result" "places" "[I") (by decide +kernel)) (fun _ h9 => h9) rfl dX2_keepLetters_11 ?_
        refine lv_iload_n hx hb dX2_keepLetters_14 rfl (lv_at hl 2 rfl) ?_
        refine nz_iald (f := rs.1) (k := k) hx hb hK hP 12 1 rfl rfl (by omega) (by decide) dX2_keepLetters_15 ?_
        refine lv_istore_n (lv' := [(3, .int (nI (rs.1 k))), (0, .ref (a 5)), (1, .ref (a 3)), (2, .int (nI (k)))]) hx hb dX2_keepLetters_16 rfl hl (by decide) rfl (fun ls hl => ?_)
        refine lv_aload_n hx hb dX2_keepLetters_17 rfl (lv_at hl 1 rfl) ?_
        refine va_get (D := D) (ci := 2) (v := .ref (a 15)) (C := RX2) (T := TX2) (N := 6) hx hb hts hinX2 hown hK hP 5 rfl rfl 3 (by decide) (hts (.fieldLink RX2 22 "TypoSuggester$Result" "lengths" "[I") (by decide +kernel)) (fun _ h9 => h9) rfl dX2_keepLetters_18 ?_
        refine lv_iload_n hx hb dX2_keepLetters_21 rfl (lv_at hl 3 rfl) ?_
        refine lv_aload_n hx hb dX2_keepLetters_22 rfl (lv_at hl 2 rfl) ?_
        refine lv_iload_n hx hb dX2_keepLetters_23 rfl (lv_at hl 0 rfl) ?_
        refine nz_callR (va_runV (As := [.int (nI (rs.1 k))]) (rest := [.int (nI (k)), .ref (a 15)]) ⟨hx, hb, hml, hown, hts⟩ (mX0_lengthOf l D a cs tp wd lx ro (rs.1, rs.2.1, rs.2.2.1, mixR (fun x => lx.2.1 (rs.1 x + 1) - lx.2.1 (rs.1 x)) rs.2.2.2.1 k, ltrF lx rs.1 rs.2.2.2.2.1 k, rs.2.2.2.2.2) (rs.1 k) hB (hpl k c_7)) (cwV 1 hts gX2_keepLetters_X0_lengthOf rfl rfl rfl (by decide +kernel) ⟨Nat.le_of_ble_eq_true rfl, Nat.le_of_ble_eq_true rfl⟩) (nz_preV (ci := 0) (q0 := 3) hK hP rfl rfl) rfl rfl hl.1 rfl (lv_room (Nat.le_of_ble_eq_true rfl)) dX2_keepLetters_24 ⟨Nat.zero_le _, Nat.zero_le _⟩) ?_
        refine nz_iast (f := mixR (fun x => lx.2.1 (rs.1 x + 1) - lx.2.1 (rs.1 x)) rs.2.2.2.1 k) (k := k) (v := lx.2.1 ((rs.1 k) + 1) - lx.2.1 (rs.1 k)) (ws' := wX a cs tp wd lx ro (rs.1, rs.2.1, rs.2.2.1, va_up (mixR (fun x => lx.2.1 (rs.1 x + 1) - lx.2.1 (rs.1 x)) rs.2.2.2.1 k) k (lx.2.1 ((rs.1 k) + 1) - lx.2.1 (rs.1 k)), ltrF lx rs.1 rs.2.2.2.2.1 k, rs.2.2.2.2.2)) hx hb hK hP (wX_D ha) hS 15 1 rfl rfl (by omega) (by decide) dX2_keepLetters_27 rfl (fun H locs hP hS => ?_)
        have e_1 : va_up (mixR (fun x => lx.2.1 (rs.1 x + 1) - lx.2.1 (rs.1 x)) rs.2.2.2.1 k) k (lx.2.1 ((rs.1 k) + 1) - lx.2.1 (rs.1 k)) = mixR (fun x => lx.2.1 (rs.1 x + 1) - lx.2.1 (rs.1 x)) rs.2.2.2.1 (k + 1) := mixR_step _ _ _
        rw [e_1] at hP
        refine lv_aload_n hx hb dX2_keepLetters_28 rfl (lv_at hl 2 rfl) ?_
        refine va_get (D := D) (ci := 0) (v := .ref (a 8)) (C := RX0) (T := TX0) (N := 4) hx hb hts hinX0 hown hK hP 3 rfl rfl 0 (by decide) (hts (.fieldLink RX2 45 "TypoSuggester$Lexicon" "letters" "[B") (by decide +kernel)) (fun _ h9 => h9) rfl dX2_keepLetters_29 ?_
        refine lv_aload_n hx hb dX2_keepLetters_32 rfl (lv_at hl 2 rfl) ?_
        refine va_get (D := D) (ci := 0) (v := .ref (a 9)) (C := RX0) (T := TX0) (N := 4) hx hb hts hinX0 hown hK hP 3 rfl rfl 1 (by decide) (hts (.fieldLink RX2 46 "TypoSuggester$Lexicon" "starts" "[I") (by decide +kernel)) (fun _ h9 => h9) rfl dX2_keepLetters_33 ?_
        refine lv_iload_n hx hb dX2_keepLetters_36 rfl (lv_at hl 0 rfl) ?_
        refine nz_iald (f := lx.2.1) (k := rs.1 k) hx hb hK hP 9 1 rfl rfl (by omega) (by decide) dX2_keepLetters_37 ?_
        refine lv_aload_n hx hb dX2_keepLetters_38 rfl (lv_at hl 1 rfl) ?_
        refine va_get (D := D) (ci := 2) (v := .ref (a 16)) (C := RX2) (T := TX2) (N := 6) hx hb hts hinX2 hown hK hP 5 rfl rfl 4 (by decide) (hts (.fieldLink RX2 25 "TypoSuggester$Result" "letters" "[B") (by decide +kernel)) (fun _ h9 => h9) rfl dX2_keepLetters_39 ?_
        refine lv_iload_n hx hb dX2_keepLetters_42 rfl (lv_at hl 3 rfl) ?_
        refine lv_bipush (v := nI 24) hx hb dX2_keepLetters_43 (by decide +kernel) ?_
        refine nz_imul (a := k) (b := 24) hx hb dX2_keepLetters_45 ?_
        refine lv_aload_n hx hb dX2_keepLetters_46 rfl (lv_at hl 1 rfl) ?_
        refine va_get (D := D) (ci := 2) (v := .ref (a 15)) (C := RX2) (T := TX2) (N := 6) hx hb hts hinX2 hown hK hP 5 rfl rfl 3 (by decide) (hts (.fieldLink RX2 22 "TypoSuggester$Result" "lengths" "[I") (by decide +kernel)) (fun _ h9 => h9) rfl dX2_keepLetters_47 ?_
        refine lv_iload_n hx hb dX2_keepLetters_50 rfl (lv_at hl 3 rfl) ?_
        refine nz_iald (f := mixR (fun x => lx.2.1 (rs.1 x + 1) - lx.2.1 (rs.1 x)) rs.2.2.2.1 (k + 1)) (k := k) hx hb hK hP 15 1 rfl rfl (by omega) (by decide) dX2_keepLetters_51 ?_
        refine nz_top (y := nI (lx.2.1 (rs.1 k + 1) - lx.2.1 (rs.1 k))) (by rw [mixR_lt (Nat.lt_succ_self _)]) ?_
        refine nz_copyi (ws' := wX a cs tp wd lx ro (rs.1, rs.2.1, rs.2.2.1, mixR (fun x => lx.2.1 (rs.1 x + 1) - lx.2.1 (rs.1 x)) rs.2.2.2.1 (k + 1), va_cpy lx.1 (ltrF lx rs.1 rs.2.2.2.2.1 k) (lx.2.1 (rs.1 k)) (k * 24) (lx.2.1 (rs.1 k + 1) - lx.2.1 (rs.1 k)), rs.2.2.2.2.2)) (f := lx.1) (g := ltrF lx rs.1 rs.2.2.2.2.1 k) (sp := lx.2.1 (rs.1 k)) (dp := k * 24) (n := lx.2.1 (rs.1 k + 1) - lx.2.1 (rs.1 k)) hx hb (hml.trans hl.1.symm) hown (hts (.methodLink RX2 49 arraycopyName) (by decide +kernel)) (hts (.native arraycopyName) (by decide +kernel)) (hts (.static arraycopyName) (by decide +kernel)) (hts (.initialized "java/lang/System") (by decide +kernel)) hK hP (wX_D ha) hS 8 16 0 0 rfl rfl rfl rfl rfl (by omega) (by omega) (by omega) (by omega) (by omega) (fun j _ => (nz_b8 _ (hB4 _)).2.1) (Nat.le_of_ble_eq_true rfl) (Nat.le_of_ble_eq_true rfl) dX2_keepLetters_52 rfl (fun H locs hP hS => ?_)
        have e_2 : va_cpy lx.1 (ltrF lx rs.1 rs.2.2.2.2.1 k) (lx.2.1 (rs.1 k)) (k * 24) (lx.2.1 (rs.1 k + 1) - lx.2.1 (rs.1 k)) = ltrF lx rs.1 rs.2.2.2.2.1 (k + 1) := rfl
        rw [e_2] at hP
        refine lv_iinc (v := nI (k + 1)) (lv' := [(2, .int (nI (k + 1))), (3, .int (nI (rs.1 k))), (0, .ref (a 5)), (1, .ref (a 3))]) hx hb dX2_keepLetters_55 hl (k := 3) rfl (nz_inc1 _) (by decide) rfl (fun ls hl => ?_)
        refine lv_goto (tgt := 2) hx hb dX2_keepLetters_58 (by decide) ?_
        exact ih (k + 1) (by omega) (by omega) H locs hP hS ls (lv_sub hl [2, 3, 0] rfl)
  exact loop (rs.2.2.2.2.2 - 0 + 1) 0 (Nat.zero_le _) (Nat.lt_succ_self _) H locs hP hS ls (lv_sub hl [1, 2, 0] rfl)
abbrev rmX2_letterOf : Room := { frames := 0, cells := 0, slots := 0, locals := 0 }
set_option maxHeartbeats 4000000 in
set_option maxRecDepth 100000 in
theorem mX2_letterOf (l : Launch) (D : va_G) (a : Nat → Nat) (cs : Nat → ClassId) (tp : (Nat → Int32) × Nat) (wd : (Nat → Nat) × Nat) (lx : (Nat → Nat) × (Nat → Nat) × (Nat → Nat) × Nat) (ro : Nat → Nat) (rs : (Nat → Nat) × (Nat → Nat) × (Nat → Nat) × (Nat → Nat) × (Nat → Nat) × Nat) (i : Int32) (j : Int32) (hR : RsB rs) : Met l yX2_letterOf wsX2_letterOf rmX2_letterOf (wdP D vwCl (wX a cs tp wd lx ro rs) (tyX cs) [.ref (a 5), .int (i), .int (j)]) (rdQ (.int (termF rs.2.2.2.2.2 rs.2.2.2.1 (fun x y => rs.2.2.2.2.1 (x * 24 + y)) i j))) 0 0 (fun _ => False) := by
  obtain ⟨hR1, hR2, hR3⟩ := hR
  refine nz_metRi (by decide) rfl (Nat.le_of_ble_eq_true rfl) rfl ?_
  intro p e s m args below meth c Q hx hb hml hts hown hP hK hret ls hl
  have hl : lv_has ls 3 [(0, .ref (a 5)), (1, .int (i)), (2, .int (j))] := hl
  have hown : s.vm.findClass RX2 = some m.cls := hown
  have hinX2 : ∀ w ∈ u_ws RX2 TX2 6, w ∈ wsX2_letterOf := by decide +kernel
  refine lv_iload_n hx hb dX2_letterOf_0 rfl (lv_at hl 1 rfl) ?_
  refine lv_if_lt (tgt := 26) hx hb dX2_letterOf_1 (by decide) (fun c_1 => ?_) (fun c_1 => ?_)
  · have hz := termF_n1 (n := rs.2.2.2.2.2) (Z := rs.2.2.2.1) (T := fun x y => rs.2.2.2.2.1 (x * 24 + y)) (j := j) c_1
    refine lv_iconst (v := (-1)) hx hb dX2_letterOf_26 (by decide +kernel) ?_
    rw [hz] at hret
    exact hret 27 ls dX2_letterOf_27
  · obtain ⟨i1, hi1, rfl⟩ := nI_of c_1
    refine lv_iload_n hx hb dX2_letterOf_4 rfl (lv_at hl 1 rfl) ?_
    refine lv_aload_n hx hb dX2_letterOf_5 rfl (lv_at hl 0 rfl) ?_
    refine va_get (D := D) (ci := 2) (v := .int (nI (rs.2.2.2.2.2))) (C := RX2) (T := TX2) (N := 6) hx hb hts hinX2 hown hK hP 5 rfl rfl 5 (by decide) (hts (.fieldLink RX2 29 "TypoSuggester$Result" "count" "I") (by decide +kernel)) (fun _ h9 => h9) rfl dX2_letterOf_6 ?_
    refine nz_cge (a := i1) (b := rs.2.2.2.2.2) (tgt := 26) hx hb dX2_letterOf_9 (by decide) (by omega) (by omega) (fun c_9 => ?_) (fun c_9 => ?_)
    · have hz := termF_g1 (n := rs.2.2.2.2.2) (Z := rs.2.2.2.1) (T := fun x y => rs.2.2.2.2.1 (x * 24 + y)) (j := j) hi1 c_9
      refine lv_iconst (v := (-1)) hx hb dX2_letterOf_26 (by decide +kernel) ?_
      rw [hz] at hret
      exact hret 27 ls dX2_letterOf_27
    · refine lv_iload_n hx hb dX2_letterOf_12 rfl (lv_at hl 2 rfl) ?_
      refine lv_if_lt (tgt := 26) hx hb dX2_letterOf_13 (by decide) (fun c_13 => ?_) (fun c_13 => ?_)
      · have hz := termF_n2 (n := rs.2.2.2.2.2) (Z := rs.2.2.2.1) (T := fun x y => rs.2.2.2.2.1 (x * 24 + y)) (i := nI i1) c_13
        refine lv_iconst (v := (-1)) hx hb dX2_letterOf_26 (by decide +kernel) ?_
        rw [hz] at hret
        exact hret 27 ls dX2_letterOf_27
      · obtain ⟨j1, hj1, rfl⟩ := nI_of c_13
        refine lv_iload_n hx hb dX2_letterOf_16 rfl (lv_at hl 2 rfl) ?_
        refine lv_aload_n hx hb dX2_letterOf_17 rfl (lv_at hl 0 rfl) ?_
        refine va_get (D := D) (ci := 2) (v := .ref (a 15)) (C := RX2) (T := TX2) (N := 6) hx hb hts hinX2 hown hK hP 5 rfl rfl 3 (by decide) (hts (.fieldLink RX2 22 "TypoSuggester$Result" "lengths" "[I") (by decide +kernel)) (fun _ h9 => h9) rfl dX2_letterOf_18 ?_
        refine lv_iload_n hx hb dX2_letterOf_21 rfl (lv_at hl 1 rfl) ?_
        refine nz_iald (f := rs.2.2.2.1) (k := i1) hx hb hK hP 15 1 rfl rfl (by omega) (by decide) dX2_letterOf_22 ?_
        refine nz_clt (a := j1) (b := rs.2.2.2.1 i1) (tgt := 28) hx hb dX2_letterOf_23 (by decide) (by omega) (by have := hR3 i1; omega) (fun c_23 => ?_) (fun c_23 => ?_)
        · have hz := termF_in (n := rs.2.2.2.2.2) (Z := rs.2.2.2.1) (T := fun x y => rs.2.2.2.2.1 (x * 24 + y)) hi1 hj1 c_9 c_23
          have hr3 := hR3 i1
          refine lv_aload_n hx hb dX2_letterOf_28 rfl (lv_at hl 0 rfl) ?_
          refine va_get (D := D) (ci := 2) (v := .ref (a 16)) (C := RX2) (T := TX2) (N := 6) hx hb hts hinX2 hown hK hP 5 rfl rfl 4 (by decide) (hts (.fieldLink RX2 25 "TypoSuggester$Result" "letters" "[B") (by decide +kernel)) (fun _ h9 => h9) rfl dX2_letterOf_29 ?_
          refine lv_iload_n hx hb dX2_letterOf_32 rfl (lv_at hl 1 rfl) ?_
          refine lv_bipush (v := nI 24) hx hb dX2_letterOf_33 (by decide +kernel) ?_
          refine nz_imul (a := i1) (b := 24) hx hb dX2_letterOf_35 ?_
          refine lv_iload_n hx hb dX2_letterOf_36 rfl (lv_at hl 2 rfl) ?_
          refine nz_iadd (a := i1 * 24) (b := j1) hx hb dX2_letterOf_37 ?_
          refine nz_bald (f := rs.2.2.2.2.1) (k := i1 * 24 + j1) hx hb hK hP 16 0 rfl rfl (by omega) (by decide) dX2_letterOf_38 ?_
          rw [hz] at hret
          exact hret 39 ls dX2_letterOf_39
        · have hz := termF_g2 (n := rs.2.2.2.2.2) (Z := rs.2.2.2.1) (T := fun x y => rs.2.2.2.2.1 (x * 24 + y)) hi1 hj1 c_23
          refine lv_iconst (v := (-1)) hx hb dX2_letterOf_26 (by decide +kernel) ?_
          rw [hz] at hret
          exact hret 27 ls dX2_letterOf_27
