/-! The reference: near, best, the rest that reads, learn. -/
abbrev rmX6_near : Room := { frames := 2, cells := 0, slots := 0, locals := 44 }
set_option maxHeartbeats 4000000 in
set_option maxRecDepth 100000 in
theorem mX6_near (l : Launch) (D : va_G) (b : Nat → Nat) (cs : Nat → ClassId) (mt : (Nat → Int32) × Nat) (ml : (Nat → Nat) × (Nat → Nat) × (Nat → Nat) × Nat × Nat) (mr : (Nat → Nat) × (Nat → Nat) × (Nat → Nat) × (Nat → Nat) × Nat) (mk : (Nat → Bool) × (Nat → Nat) × (Nat → Nat)) (x : Int32) (bb : Bool) (b3 : Bool) (hb2 : wInjM b) (hM : MlB ml) (hT : mt.2 ≤ 400) (hbb : bb = true ↔ goodT mt) (hb3 : b3 = true ↔ dOk x) : Met l yX6_near wsX6_near rmX6_near (wdP D vwCl (wM b cs mt ml mr mk) (tyX cs) [.ref (b 0), .int (x)]) (wrQ (some (.int (bif (bb && b3) then nI (cntF (fun i => decide (nrF (qF mt) mt.2 (TM ml i) (ZM ml i) ≤ x.toNatClampNeg)) ml.2.2.2.1) else (-1)))) (fun H => ∃ mk9, va_P D vwCl (wM b cs (mt.1, 0) ml mr mk9) H) (inM b)) 0 0 (inM b) := by
  obtain ⟨hM1, hM2, hM3, hM4, hM5⟩ := id hM
  refine nz_metWi (by decide) rfl (Nat.le_of_ble_eq_true rfl) rfl ?_
  intro p e s m args below meth c Q hx hb hml hts hown hP hK hret ls hl
  have hl : lv_has ls 5 [(0, .ref (b 0)), (1, .int (x))] := hl
  have hown : s.vm.findClass RX6 = some m.cls := hown
  have hinX6 : ∀ w ∈ u_ws RX6 TX6 15, w ∈ wsX6_near := by decide +kernel
  have hS : va_S (inM b) s.heap s.heap [] := va_S.rf
  obtain ⟨H, hH⟩ : ∃ H, H = s.heap := ⟨_, rfl⟩
  obtain ⟨locs, hlocs⟩ : ∃ locs : List Loc, locs = [] := ⟨_, rfl⟩
  have hP : va_P D vwCl (wM b cs mt ml mr mk) H := hH ▸ hP
  have hS : va_S (inM b) s.heap H locs := by rw [hH, hlocs]; exact va_S.rf
  suffices hgo : W p l e rmX6_near s m args below meth c H locs 0 0 Q (F0 m 0 ls []) by rw [hH, hlocs] at hgo; exact hgo
  clear hH hlocs
  refine lv_aload_n hx hb dX6_near_0 rfl (lv_at hl 0 rfl) ?_
  refine lv_iconst (v := nI 0) hx hb dX6_near_1 (by decide +kernel) ?_
  refine nz_callW (va_runV (As := [.int (nI (0))]) (rest := []) ⟨hx, hb, hml, hown, hts⟩ (mX6_taken l D b cs mt ml mr mk 0 bb hb2 hT (by omega) (hbb.trans ⟨fun h => ⟨h, Nat.zero_le _⟩, fun h => h.1⟩)) (cwV 1 hts gX6_near_X6_taken rfl rfl rfl (by decide +kernel) ⟨Nat.le_of_ble_eq_true rfl, Nat.le_of_ble_eq_true rfl⟩) (nz_preV (ci := 6) (q0 := 0) hK hP rfl rfl) rfl rfl hl.1 rfl (lv_room (Nat.le_of_ble_eq_true rfl)) dX6_near_2 ⟨Nat.zero_le _, Nat.zero_le _⟩) hS (fun _ h => h) (fun H locs hP _ _ hS => ?_)
  refine lv_istore_n (lv' := [(2, .int (bif bb then nI mt.2 else (-1))), (0, .ref (b 0)), (1, .int (x))]) hx hb dX6_near_5 rfl hl (by decide) rfl (fun ls hl => ?_)
  refine lv_iload_n hx hb dX6_near_6 rfl (lv_at hl 0 rfl) ?_
  refine lv_iconst (v := (-1)) hx hb dX6_near_7 (by decide +kernel) ?_
  refine lv_icmp_eq (tgt := 20) hx hb dX6_near_8 (by decide) (fun c_8 => ?_) (fun c_8 => ?_)
  · have hbf := pb_eq (by omega) c_8
    refine lv_iconst (v := (-1)) hx hb dX6_near_20 (by decide +kernel) ?_
    have hz : (bb && b3) = false := by
      cases hbb9 : bb with
      | false => rfl
      | true =>
        cases hb39 : b3 with
        | false => rfl
        | true =>
          have h9 := hb3.mp hb39
          first | exact absurd (hbf.symm.trans hbb9) (by decide) | exact absurd c_12 h9.1 | exact absurd h9.2 (by rw [nI_clamp hd1]; omega)
    rw [hz] at hret
    exact hret 21 ls H locs dX6_near_21 ⟨_, hP⟩ hS
  · have hbt := pb_ne c_8
    have hgd : goodT mt := hbb.mp hbt
    have hg1 := hgd.1
    have e_1 : (bif bb then nI mt.2 else (-1)) = (nI (mt.2)) := by rw [hbt]; rfl
    have hl : lv_has ls 5 [(2, .int (nI (mt.2))), (0, .ref (b 0)), (1, .int (x))] := by rw [← e_1]; exact hl
    refine lv_iload_n hx hb dX6_near_11 rfl (lv_at hl 2 rfl) ?_
    refine lv_if_lt (tgt := 20) hx hb dX6_near_12 (by decide) (fun c_12 => ?_) (fun c_12 => ?_)
    · refine lv_iconst (v := (-1)) hx hb dX6_near_20 (by decide +kernel) ?_
      have hz : (bb && b3) = false := by
        cases hbb9 : bb with
        | false => rfl
        | true =>
          cases hb39 : b3 with
          | false => rfl
          | true =>
            have h9 := hb3.mp hb39
            first | exact absurd (hbf.symm.trans hbb9) (by decide) | exact absurd c_12 h9.1 | exact absurd h9.2 (by rw [nI_clamp hd1]; omega)
      rw [hz] at hret
      exact hret 21 ls H locs dX6_near_21 ⟨_, hP⟩ hS
    · obtain ⟨d1, hd1, rfl⟩ := nI_of c_12
      refine lv_iload_n hx hb dX6_near_15 rfl (lv_at hl 2 rfl) ?_
      refine lv_iconst (v := nI 2) hx hb dX6_near_16 (by decide +kernel) ?_
      refine nz_cle (a := d1) (b := 2) (tgt := 22) hx hb dX6_near_17 (by decide) (by omega) (by omega) (fun c_17 => ?_) (fun c_17 => ?_)
      · refine lv_iconst (v := nI 0) hx hb dX6_near_22 (by decide +kernel) ?_
        refine lv_istore_n (lv' := [(3, .int (nI (0))), (2, .int (nI (mt.2))), (0, .ref (b 0)), (1, .int (nI (d1)))]) hx hb dX6_near_23 rfl hl (by decide) rfl (fun ls hl => ?_)
        refine lv_iconst (v := nI 0) hx hb dX6_near_24 (by decide +kernel) ?_
        refine lv_istore (lv' := [(4, .int (nI (0))), (3, .int (nI (0))), (2, .int (nI (mt.2))), (0, .ref (b 0)), (1, .int (nI (d1)))]) hx hb dX6_near_25 hl (by decide) rfl (fun ls hl => ?_)
        have loop : ∀ (fuel : Nat) (k : Nat) (ro2 : Nat → Nat), (k ≤ ml.2.2.2.1) → ml.2.2.2.1 - k < fuel → ∀ (H : Heap) (locs : List Loc), va_P D vwCl (wM b cs (mt.1, 0) ml mr (mk.1, mk.2.1, ro2)) H → va_S (inM b) s.heap H locs → ∀ ls : Array Slot, lv_has ls 5 [(0, .ref (b 0)), (1, .int (nI (d1))), (2, .int (nI (mt.2))), (3, .int (nI (cntF (fun i => decide (nrF (qF (mt.1, 0)) mt.2 (TM ml i) (ZM ml i) ≤ d1)) k))), (4, .int (nI (k)))] → W p l e rmX6_near s m args below meth c H locs 0 0 Q (F0 m 27 ls []) := by
          intro fuel
          induction fuel with
          | zero => intro k ro2 hk hf; exact absurd hf (Nat.not_lt_zero _)
          | succ fuel ih =>
            intro k ro2 hk hf H locs hP hS ls hl
            have hc9 := cntF_le (fun i => decide (nrF (qF (mt.1, 0)) mt.2 (TM ml i) (ZM ml i) ≤ d1)) k
            have hnb : nrF (qF (mt.1, 0)) mt.2 (TM ml k) (ZM ml k) ≤ mt.2 := minR_le _ _ 0 (Nat.zero_le _)
            refine lv_iload hx hb dX6_near_27 (lv_at hl 4 rfl) ?_
            refine lv_aload_n hx hb dX6_near_29 rfl (lv_at hl 0 rfl) ?_
            refine va_get (D := D) (ci := 6) (v := .int (nI (ml.2.2.2.1))) (C := RX6) (T := TX6) (N := 15) hx hb hts hinX6 hown hK hP 0 rfl rfl 2 (by decide) (hts (.fieldLink RX6 46 "TypoSuggesterModel" "count" "I") (by decide +kernel)) (fun _ h9 => h9) rfl dX6_near_30 ?_
            refine nz_cge (a := k) (b := ml.2.2.2.1) (tgt := 61) hx hb dX6_near_33 (by decide) (by omega) (by omega) (fun c_33 => ?_) (fun c_33 => ?_)
            · refine lv_iload_n hx hb dX6_near_61 rfl (lv_at hl 3 rfl) ?_
              have hb39 : b3 = true := hb3.mpr ⟨nI_pos hd1, by rw [nI_clamp hd1]; exact c_17⟩
              subst hb39
              subst hbt
              rw [nI_clamp hd1] at hret
              rw [show k = ml.2.2.2.1 by omega]
              exact hret 62 ls H locs dX6_near_62 ⟨_, hP⟩ hS
            · refine lv_iload_n hx hb dX6_near_36 rfl (lv_at hl 3 rfl) ?_
              refine lv_aload_n hx hb dX6_near_37 rfl (lv_at hl 0 rfl) ?_
              refine lv_iload hx hb dX6_near_38 (lv_at hl 4 rfl) ?_
              refine lv_iload_n hx hb dX6_near_40 rfl (lv_at hl 2 rfl) ?_
              refine nz_callW (va_runV (As := [.int (nI (k)), .int (nI (mt.2))]) (rest := [.int (nI (cntF (fun i => decide (nrF (qF (mt.1, 0)) mt.2 (TM ml i) (ZM ml i) ≤ d1)) k))]) ⟨hx, hb, hml, hown, hts⟩ (mX6_nearnessOf l D b cs (mt.1, 0) ml mr (mk.1, mk.2.1, ro2) k mt.2 hb2 hM (by omega) hg1 hgd.2) (cwV 2 hts gX6_near_X6_nearnessOf rfl rfl rfl (by decide +kernel) ⟨Nat.le_of_ble_eq_true rfl, Nat.le_of_ble_eq_true rfl⟩) (nz_preV (ci := 6) (q0 := 0) hK hP rfl rfl) rfl rfl hl.1 rfl (lv_room (Nat.le_of_ble_eq_true rfl)) dX6_near_41 ⟨Nat.zero_le _, Nat.zero_le _⟩) hS (fun _ h => h) (fun H locs hP _ _ hS => ?_)
              obtain ⟨ro9_2, hP⟩ := hP
              refine lv_iload_n hx hb dX6_near_44 rfl (lv_at hl 1 rfl) ?_
              refine nz_cgt (a := nrF (qF (mt.1, 0)) mt.2 (TM ml k) (ZM ml k)) (b := d1) (tgt := 52) hx hb dX6_near_45 (by decide) (by omega) (by omega) (fun c_45 => ?_) (fun c_45 => ?_)
              · refine lv_iconst (v := nI 0) hx hb dX6_near_52 (by decide +kernel) ?_
                refine nz_iadd (a := cntF (fun i => decide (nrF (qF (mt.1, 0)) mt.2 (TM ml i) (ZM ml i) ≤ d1)) k) (b := 0) hx hb dX6_near_53 ?_
                refine nz_top (y := nI (cntF (fun i => decide (nrF (qF (mt.1, 0)) mt.2 (TM ml i) (ZM ml i) ≤ d1)) k)) (by rfl) ?_
                refine lv_istore_n (lv' := [(3, .int (nI (cntF (fun i => decide (nrF (qF (mt.1, 0)) mt.2 (TM ml i) (ZM ml i) ≤ d1)) k))), (0, .ref (b 0)), (1, .int (nI (d1))), (2, .int (nI (mt.2))), (4, .int (nI (k)))]) hx hb dX6_near_54 rfl hl (by decide) rfl (fun ls hl => ?_)
                have hstep : cntF (fun i => decide (nrF (qF (mt.1, 0)) mt.2 (TM ml i) (ZM ml i) ≤ d1)) (k + 1) = cntF (fun i => decide (nrF (qF (mt.1, 0)) mt.2 (TM ml i) (ZM ml i) ≤ d1)) k := cntF_f (by rw [decide_eq_false_iff_not]; omega)
                have e_3 : (nI (cntF (fun i => decide (nrF (qF (mt.1, 0)) mt.2 (TM ml i) (ZM ml i) ≤ d1)) k)) = (nI (cntF (fun i => decide (nrF (qF (mt.1, 0)) mt.2 (TM ml i) (ZM ml i) ≤ d1)) (k + 1))) := by rw [hstep]
                have hl : lv_has ls 5 [(3, .int (nI (cntF (fun i => decide (nrF (qF (mt.1, 0)) mt.2 (TM ml i) (ZM ml i) ≤ d1)) (k + 1)))), (0, .ref (b 0)), (1, .int (nI (d1))), (2, .int (nI (mt.2))), (4, .int (nI (k)))] := by rw [← e_3]; exact hl
                refine lv_iinc (v := nI (k + 1)) (lv' := [(4, .int (nI (k + 1))), (3, .int (nI (cntF (fun i => decide (nrF (qF (mt.1, 0)) mt.2 (TM ml i) (ZM ml i) ≤ d1)) (k + 1)))), (0, .ref (b 0)), (1, .int (nI (d1))), (2, .int (nI (mt.2)))]) hx hb dX6_near_55 hl (k := 4) rfl (nz_inc1 _) (by decide) rfl (fun ls hl => ?_)
                refine lv_goto (tgt := 27) hx hb dX6_near_58 (by decide) ?_
                exact ih (k + 1) ro9_2 (by omega) (by omega) H locs hP hS ls (lv_sub hl [2, 3, 4, 1, 0] rfl)
              · refine lv_iconst (v := nI 1) hx hb dX6_near_48 (by decide +kernel) ?_
                refine lv_goto (tgt := 53) hx hb dX6_near_49 (by decide) ?_
                refine nz_iadd (a := cntF (fun i => decide (nrF (qF (mt.1, 0)) mt.2 (TM ml i) (ZM ml i) ≤ d1)) k) (b := 1) hx hb dX6_near_53 ?_
                refine lv_istore_n (lv' := [(3, .int (nI (cntF (fun i => decide (nrF (qF (mt.1, 0)) mt.2 (TM ml i) (ZM ml i) ≤ d1)) k + 1))), (0, .ref (b 0)), (1, .int (nI (d1))), (2, .int (nI (mt.2))), (4, .int (nI (k)))]) hx hb dX6_near_54 rfl hl (by decide) rfl (fun ls hl => ?_)
                have hstep : cntF (fun i => decide (nrF (qF (mt.1, 0)) mt.2 (TM ml i) (ZM ml i) ≤ d1)) (k + 1) = cntF (fun i => decide (nrF (qF (mt.1, 0)) mt.2 (TM ml i) (ZM ml i) ≤ d1)) k + 1 := cntF_t (by rw [decide_eq_true_iff]; omega)
                have e_4 : (nI (cntF (fun i => decide (nrF (qF (mt.1, 0)) mt.2 (TM ml i) (ZM ml i) ≤ d1)) k + 1)) = (nI (cntF (fun i => decide (nrF (qF (mt.1, 0)) mt.2 (TM ml i) (ZM ml i) ≤ d1)) (k + 1))) := by rw [hstep]
                have hl : lv_has ls 5 [(3, .int (nI (cntF (fun i => decide (nrF (qF (mt.1, 0)) mt.2 (TM ml i) (ZM ml i) ≤ d1)) (k + 1)))), (0, .ref (b 0)), (1, .int (nI (d1))), (2, .int (nI (mt.2))), (4, .int (nI (k)))] := by rw [← e_4]; exact hl
                refine lv_iinc (v := nI (k + 1)) (lv' := [(4, .int (nI (k + 1))), (3, .int (nI (cntF (fun i => decide (nrF (qF (mt.1, 0)) mt.2 (TM ml i) (ZM ml i) ≤ d1)) (k + 1)))), (0, .ref (b 0)), (1, .int (nI (d1))), (2, .int (nI (mt.2)))]) hx hb dX6_near_55 hl (k := 4) rfl (nz_inc1 _) (by decide) rfl (fun ls hl => ?_)
                refine lv_goto (tgt := 27) hx hb dX6_near_58 (by decide) ?_
                exact ih (k + 1) ro9_2 (by omega) (by omega) H locs hP hS ls (lv_sub hl [2, 3, 4, 1, 0] rfl)
        exact loop (ml.2.2.2.1 - 0 + 1) 0 mk.2.2 (Nat.zero_le _) (Nat.lt_succ_self _) H locs hP hS ls (lv_sub hl [3, 4, 2, 1, 0] rfl)
      · refine lv_iconst (v := (-1)) hx hb dX6_near_20 (by decide +kernel) ?_
        have hz : (bb && b3) = false := by
          cases hbb9 : bb with
          | false => rfl
          | true =>
            cases hb39 : b3 with
            | false => rfl
            | true =>
              have h9 := hb3.mp hb39
              first | exact absurd (hbf.symm.trans hbb9) (by decide) | exact absurd c_12 h9.1 | exact absurd h9.2 (by rw [nI_clamp hd1]; omega)
        rw [hz] at hret
        exact hret 21 ls H locs dX6_near_21 ⟨_, hP⟩ hS
theorem mx1_keep {P : Nat → Bool} {V : Nat → Nat} {n : Nat} (h : P n = false ∨ V n + 1 ≤ mx1 P V n) : mx1 P V (n + 1) = mx1 P V n := by
  show (if P n then max (mx1 P V n) (V n + 1) else mx1 P V n) = _
  split
  · rename_i hp
    rcases h with h | h
    · rw [h] at hp
      cases hp
    · omega
  · rfl
theorem mx1_top {g w : Nat} (h : g < w + 1) (hg : g ≤ 1000000000001) (hw : w ≤ 1000000000000) : lN (max g (w + 1)) - 1 = lN w := by
  rw [show max g (w + 1) = w + 1 by omega, show (1 : Int64) = lN 1 from rfl, lN_sub (by omega)]
  rfl
theorem mx1_cmp {g w : Nat} (hg : g ≤ 1000000000001) (hw : w ≤ 1000000000000) : (lg_cmp (lN w) (lN g - 1) ≤ 0) ↔ w + 1 ≤ g := by
  have e : (lN g - 1).toInt = (g : Int) - 1 := by
    rcases Nat.eq_zero_or_pos g with h | h
    · subst h
      decide +kernel
    · rw [show (1 : Int64) = lN 1 from rfl, lN_sub (by omega), pk_lT (by omega)]
      omega
  have e2 : (lN w).toInt = (w : Int) := pk_lT (by omega)
  unfold lg_cmp
  by_cases h1 : lN w > lN g - 1
  · rw [if_pos h1]
    have h1 : lN g - 1 < lN w := h1
    rw [Int64.lt_iff_toInt_lt, e, e2] at h1
    refine ⟨fun z => absurd z (by decide +kernel), fun z => by omega⟩
  · rw [if_neg h1]
    have h1 : ¬ lN g - 1 < lN w := h1
    rw [Int64.lt_iff_toInt_lt, e, e2] at h1
    by_cases h2 : lN w = lN g - 1
    · rw [if_pos h2]
      have h3 : (lN w).toInt = (lN g - 1).toInt := by rw [h2]
      rw [e, e2] at h3
      exact ⟨fun _ => by omega, fun _ => by decide +kernel⟩
    · rw [if_neg h2]
      have h3 : (lN w).toInt ≠ (lN g - 1).toInt := fun z => h2 (Int64.toInt_inj.mp z)
      rw [e, e2] at h3
      exact ⟨fun _ => by omega, fun _ => by decide +kernel⟩
abbrev rmX6_best : Room := { frames := 2, cells := 0, slots := 0, locals := 44 }
set_option maxHeartbeats 4000000 in
set_option maxRecDepth 100000 in
theorem mX6_best (l : Launch) (D : va_G) (b : Nat → Nat) (cs : Nat → ClassId) (mt : (Nat → Int32) × Nat) (ml : (Nat → Nat) × (Nat → Nat) × (Nat → Nat) × Nat × Nat) (mr : (Nat → Nat) × (Nat → Nat) × (Nat → Nat) × (Nat → Nat) × Nat) (mk : (Nat → Bool) × (Nat → Nat) × (Nat → Nat)) (bb : Bool) (hb2 : wInjM b) (hM : MlB ml) (hT : mt.2 ≤ 400) (hbb : bb = true ↔ goodT mt) : Met l yX6_best wsX6_best rmX6_best (wdP D vwCl (wM b cs mt ml mr mk) (tyX cs) [.ref (b 0)]) (wrQ (some (.long (bif bb then lN (mx1 (fun i => dB (begF (qF mt) mt.2 (TM ml i) (ZM ml i))) ml.2.2.1 ml.2.2.2.1) - 1 else (-1)))) (fun H => va_P D vwCl (wM b cs (mt.1, 0) ml mr mk) H) (inM b)) 0 0 (inM b) := by
  obtain ⟨hM1, hM2, hM3, hM4, hM5⟩ := id hM
  refine nz_metWl (by decide) rfl (Nat.le_of_ble_eq_true rfl) ?_
  intro p e s m args below meth c Q hx hb hml hts hown hP hK hret ls hl
  have hl : lv_has ls 7 [(0, .ref (b 0))] := hl
  have hown : s.vm.findClass RX6 = some m.cls := hown
  have hinX6 : ∀ w ∈ u_ws RX6 TX6 15, w ∈ wsX6_best := by decide +kernel
  have hS : va_S (inM b) s.heap s.heap [] := va_S.rf
  obtain ⟨H, hH⟩ : ∃ H, H = s.heap := ⟨_, rfl⟩
  obtain ⟨locs, hlocs⟩ : ∃ locs : List Loc, locs = [] := ⟨_, rfl⟩
  have hP : va_P D vwCl (wM b cs mt ml mr mk) H := hH ▸ hP
  have hS : va_S (inM b) s.heap H locs := by rw [hH, hlocs]; exact va_S.rf
  suffices hgo : W p l e rmX6_best s m args below meth c H locs 0 0 Q (F0 m 0 ls []) by rw [hH, hlocs] at hgo; exact hgo
  clear hH hlocs
  refine lv_aload_n hx hb dX6_best_0 rfl (lv_at hl 0 rfl) ?_
  refine lv_iconst (v := nI 0) hx hb dX6_best_1 (by decide +kernel) ?_
  refine nz_callW (va_runV (As := [.int (nI (0))]) (rest := []) ⟨hx, hb, hml, hown, hts⟩ (mX6_taken l D b cs mt ml mr mk 0 bb hb2 hT (by omega) (hbb.trans ⟨fun h => ⟨h, Nat.zero_le _⟩, fun h => h.1⟩)) (cwV 1 hts gX6_best_X6_taken rfl rfl rfl (by decide +kernel) ⟨Nat.le_of_ble_eq_true rfl, Nat.le_of_ble_eq_true rfl⟩) (nz_preV (ci := 6) (q0 := 0) hK hP rfl rfl) rfl rfl hl.1 rfl (lv_room (Nat.le_of_ble_eq_true rfl)) dX6_best_2 ⟨Nat.zero_le _, Nat.zero_le _⟩) hS (fun _ h => h) (fun H locs hP _ _ hS => ?_)
  refine lv_istore_n (lv' := [(1, .int (bif bb then nI mt.2 else (-1))), (0, .ref (b 0))]) hx hb dX6_best_5 rfl hl (by decide) rfl (fun ls hl => ?_)
  cases bb with
  | false =>
    have hl : lv_has ls 7 [(1, .int ((-1))), (0, .ref (b 0))] := hl
    refine lv_ldc2 (v := (-1)) hx hb hown (hts (.constantLong RX6 89 (-1)) (by decide +kernel)) dX6_best_6 ?_
    refine lv_lstore_n (lv' := [(2, .long ((-1))), (1, .int ((-1))), (0, .ref (b 0))]) hx hb dX6_best_9 rfl hl (by decide) rfl (fun ls hl => ?_)
    refine lv_iconst (v := nI 0) hx hb dX6_best_10 (by decide +kernel) ?_
    refine lv_istore (lv' := [(4, .int (nI (0))), (2, .long ((-1))), (1, .int ((-1))), (0, .ref (b 0))]) hx hb dX6_best_11 hl (by decide) rfl (fun ls hl => ?_)
    refine lv_iload hx hb dX6_best_13 (lv_at hl 0 rfl) ?_
    refine lv_aload_n hx hb dX6_best_15 rfl (lv_at hl 3 rfl) ?_
    refine va_get (D := D) (ci := 6) (v := .int (nI (ml.2.2.2.1))) (C := RX6) (T := TX6) (N := 15) hx hb hts hinX6 hown hK hP 0 rfl rfl 2 (by decide) (hts (.fieldLink RX6 46 "TypoSuggesterModel" "count" "I") (by decide +kernel)) (fun _ h9 => h9) rfl dX6_best_16 ?_
    refine nz_cge (a := 0) (b := ml.2.2.2.1) (tgt := 130) hx hb dX6_best_19 (by decide) (by omega) (by omega) (fun c_19 => ?_) (fun c_19 => ?_)
    · refine lv_lload_n hx hb dX6_best_130 rfl (lv_at hl 1 rfl) ?_
      exact hret 131 ls H locs dX6_best_131 hP hS
    · refine lv_iload_n hx hb dX6_best_22 rfl (lv_at hl 2 rfl) ?_
      refine lv_iconst (v := (-1)) hx hb dX6_best_23 (by decide +kernel) ?_
      refine lv_icmp_eq (tgt := 130) hx hb dX6_best_24 (by decide) (fun _ => ?_) (fun h => absurd rfl h)
      refine lv_lload_n hx hb dX6_best_130 rfl (lv_at hl 1 rfl) ?_
      exact hret 131 ls H locs dX6_best_131 hP hS
  | true =>
    have hgd : goodT mt := hbb.mp rfl
    have hg1 := hgd.1
    have hl : lv_has ls 7 [(1, .int (nI (mt.2))), (0, .ref (b 0))] := hl
    refine lv_ldc2 (v := (-1)) hx hb hown (hts (.constantLong RX6 89 (-1)) (by decide +kernel)) dX6_best_6 ?_
    refine lv_lstore_n (lv' := [(2, .long ((-1))), (1, .int (nI (mt.2))), (0, .ref (b 0))]) hx hb dX6_best_9 rfl hl (by decide) rfl (fun ls hl => ?_)
    refine lv_iconst (v := nI 0) hx hb dX6_best_10 (by decide +kernel) ?_
    refine lv_istore (lv' := [(4, .int (nI (0))), (2, .long ((-1))), (1, .int (nI (mt.2))), (0, .ref (b 0))]) hx hb dX6_best_11 hl (by decide) rfl (fun ls hl => ?_)
    have e_1 : ((-1)) = (lN (mx1 (fun i => dB (begF (qF mt) mt.2 (TM ml i) (ZM ml i))) ml.2.2.1 0) - 1) := by show (-1 : Int64) = lN 0 - 1; decide +kernel
    have hl : lv_has ls 7 [(4, .int (nI (0))), (2, .long (lN (mx1 (fun i => dB (begF (qF mt) mt.2 (TM ml i) (ZM ml i))) ml.2.2.1 0) - 1)), (1, .int (nI (mt.2))), (0, .ref (b 0))] := by rw [← e_1]; exact hl
    have loop : ∀ (fuel : Nat) (k : Nat), (k ≤ ml.2.2.2.1) → ml.2.2.2.1 - k < fuel → ∀ (H : Heap) (locs : List Loc), va_P D vwCl (wM b cs (mt.1, 0) ml mr mk) H → va_S (inM b) s.heap H locs → ∀ ls : Array Slot, lv_has ls 7 [(0, .ref (b 0)), (1, .int (nI (mt.2))), (2, .long (lN (mx1 (fun i => dB (begF (qF mt) mt.2 (TM ml i) (ZM ml i))) ml.2.2.1 k) - 1)), (4, .int (nI (k)))] → W p l e rmX6_best s m args below meth c H locs 0 0 Q (F0 m 13 ls []) := by
      intro fuel
      induction fuel with
      | zero => intro k hk hf; exact absurd hf (Nat.not_lt_zero _)
      | succ fuel ih =>
        intro k hk hf H locs hP hS ls hl
        have hmx := mx1_le (P := fun i => dB (begF (qF mt) mt.2 (TM ml i) (ZM ml i))) hM4 k
        have hwk := hM4 k
        have hzk := hM2 k
        refine lv_iload hx hb dX6_best_13 (lv_at hl 3 rfl) ?_
        refine lv_aload_n hx hb dX6_best_15 rfl (lv_at hl 0 rfl) ?_
        refine va_get (D := D) (ci := 6) (v := .int (nI (ml.2.2.2.1))) (C := RX6) (T := TX6) (N := 15) hx hb hts hinX6 hown hK hP 0 rfl rfl 2 (by decide) (hts (.fieldLink RX6 46 "TypoSuggesterModel" "count" "I") (by decide +kernel)) (fun _ h9 => h9) rfl dX6_best_16 ?_
        refine nz_cge (a := k) (b := ml.2.2.2.1) (tgt := 130) hx hb dX6_best_19 (by decide) (by omega) (by omega) (fun c_19 => ?_) (fun c_19 => ?_)
        · refine lv_lload_n hx hb dX6_best_130 rfl (lv_at hl 2 rfl) ?_
          rw [show k = ml.2.2.2.1 by omega]
          exact hret 131 ls H locs dX6_best_131 hP hS
        · refine lv_iload_n hx hb dX6_best_22 rfl (lv_at hl 1 rfl) ?_
          refine lv_iconst (v := (-1)) hx hb dX6_best_23 (by decide +kernel) ?_
          refine lv_icmp_eq (tgt := 130) hx hb dX6_best_24 (by decide) (fun z => absurd (by rw [z]; decide +kernel) (nI_pos (n := mt.2) (by omega))) (fun _ => ?_)
          refine lv_aload_n hx hb dX6_best_27 rfl (lv_at hl 0 rfl) ?_
          refine va_get (D := D) (ci := 6) (v := .ref (b 3)) (C := RX6) (T := TX6) (N := 15) hx hb hts hinX6 hown hK hP 0 rfl rfl 5 (by decide) (hts (.fieldLink RX6 16 "TypoSuggesterModel" "sizes" "[I") (by decide +kernel)) (fun _ h9 => h9) rfl dX6_best_28 ?_
          refine lv_iload hx hb dX6_best_31 (lv_at hl 3 rfl) ?_
          refine nz_iald (f := ml.2.1) (k := k) hx hb hK hP 3 1 rfl rfl (by omega) (by decide) dX6_best_33 ?_
          refine lv_iload_n hx hb dX6_best_34 rfl (lv_at hl 1 rfl) ?_
          refine nz_clt (a := ml.2.1 k) (b := mt.2) (tgt := 42) hx hb dX6_best_35 (by decide) (by omega) (by omega) (fun c_35 => ?_) (fun c_35 => ?_)
          · refine lv_iconst (v := nI 0) hx hb dX6_best_42 (by decide +kernel) ?_
            refine lv_istore (lv' := [(5, .int (nI (0))), (0, .ref (b 0)), (1, .int (nI (mt.2))), (2, .long (lN (mx1 (fun i => dB (begF (qF mt) mt.2 (TM ml i) (ZM ml i))) ml.2.2.1 k) - 1)), (4, .int (nI (k)))]) hx hb dX6_best_43 hl (by decide) rfl (fun ls hl => ?_)
            have e_2 : (nI (0)) = (bI (false)) := bI_f
            have hl : lv_has ls 7 [(5, .int (bI (false))), (0, .ref (b 0)), (1, .int (nI (mt.2))), (2, .long (lN (mx1 (fun i => dB (begF (qF mt) mt.2 (TM ml i) (ZM ml i))) ml.2.2.1 k) - 1)), (4, .int (nI (k)))] := by rw [← e_2]; exact hl
            refine lv_iconst (v := nI 0) hx hb dX6_best_45 (by decide +kernel) ?_
            refine lv_istore (lv' := [(6, .int (nI (0))), (5, .int (bI (false))), (0, .ref (b 0)), (1, .int (nI (mt.2))), (2, .long (lN (mx1 (fun i => dB (begF (qF mt) mt.2 (TM ml i) (ZM ml i))) ml.2.2.1 k) - 1)), (4, .int (nI (k)))]) hx hb dX6_best_46 hl (by decide) rfl (fun ls hl => ?_)
            have loop2 : ∀ (fuel : Nat) (k2 : Nat) (g : Bool), (k2 ≤ mt.2) → (g = true ↔ (mt.2 ≤ ml.2.1 k ∧ ∀ j, j < k2 → ml.1 (24 * k + j) = qF mt j)) → mt.2 - k2 < fuel → ∀ (H : Heap) (locs : List Loc), va_P D vwCl (wM b cs (mt.1, 0) ml mr mk) H → va_S (inM b) s.heap H locs → ∀ ls : Array Slot, lv_has ls 7 [(0, .ref (b 0)), (1, .int (nI (mt.2))), (2, .long (lN (mx1 (fun i => dB (begF (qF mt) mt.2 (TM ml i) (ZM ml i))) ml.2.2.1 k) - 1)), (4, .int (nI (k))), (5, .int (bI (g))), (6, .int (nI (k2)))] → W p l e rmX6_best s m args below meth c H locs 0 0 Q (F0 m 48 ls []) := by
              intro fuel
              induction fuel with
              | zero => intro k2 g hk2 hg hf; exact absurd hf (Nat.not_lt_zero _)
              | succ fuel ih2 =>
                intro k2 g hk2 hg hf H locs hP hS ls hl
                refine lv_iload hx hb dX6_best_48 (lv_at hl 5 rfl) ?_
                refine lv_iload_n hx hb dX6_best_50 rfl (lv_at hl 1 rfl) ?_
                refine nz_cge (a := k2) (b := mt.2) (tgt := 95) hx hb dX6_best_51 (by decide) (by omega) (by omega) (fun c_51 => ?_) (fun c_51 => ?_)
                · have hgb : g = dB (begF (qF mt) mt.2 (TM ml k) (ZM ml k)) := by
                    have h9 : g = true ↔ begF (qF mt) mt.2 (TM ml k) (ZM ml k) := by
                      rw [hg]
                      constructor
                      · rintro ⟨h1, h2⟩
                        refine ⟨h1, fun j hj => ?_⟩
                        have hgt := hg.mpr ⟨h1, h2⟩
                        first | exact absurd (c_56.symm.trans hgt) (by decide) | exact h2 j (by omega)
                      · intro h1
                        exact ⟨h1.1, fun j hj => h1.2 j (by omega)⟩
                    cases hg8 : g with
                    | true => rw [hg8] at h9; exact (dB_t (h9.mp rfl)).symm
                    | false => rw [hg8] at h9; exact (dB_f (fun z => absurd (h9.mpr z) (by decide))).symm
                  have join : ∀ (z : Int64), (z = lN (mx1 (fun i => dB (begF (qF mt) mt.2 (TM ml i) (ZM ml i))) ml.2.2.1 (k + 1)) - 1) → ∀ (H : Heap) (locs : List Loc), va_P D vwCl (wM b cs (mt.1, 0) ml mr mk) H → va_S (inM b) s.heap H locs → ∀ ls : Array Slot, lv_has ls 7 [(0, .ref (b 0)), (1, .int (nI (mt.2))), (4, .int (nI (k)))] → W p l e rmX6_best s m args below meth c H locs 0 0 Q (F0 m 123 ls [.long (z)]) := by
                    intro z hz9 H locs hP hS ls hl
                    refine lv_lstore_n (lv' := [(2, .long (z)), (0, .ref (b 0)), (1, .int (nI (mt.2))), (4, .int (nI (k)))]) hx hb dX6_best_123 rfl hl (by decide) rfl (fun ls hl => ?_)
                    have e_3 : (z) = (lN (mx1 (fun i => dB (begF (qF mt) mt.2 (TM ml i) (ZM ml i))) ml.2.2.1 (k + 1)) - 1) := hz9
                    have hl : lv_has ls 7 [(2, .long (lN (mx1 (fun i => dB (begF (qF mt) mt.2 (TM ml i) (ZM ml i))) ml.2.2.1 (k + 1)) - 1)), (0, .ref (b 0)), (1, .int (nI (mt.2))), (4, .int (nI (k)))] := by rw [← e_3]; exact hl
                    refine lv_iinc (v := nI (k + 1)) (lv' := [(4, .int (nI (k + 1))), (2, .long (lN (mx1 (fun i => dB (begF (qF mt) mt.2 (TM ml i) (ZM ml i))) ml.2.2.1 (k + 1)) - 1)), (0, .ref (b 0)), (1, .int (nI (mt.2)))]) hx hb dX6_best_124 hl (k := 3) rfl (nz_inc1 _) (by decide) rfl (fun ls hl => ?_)
                    refine lv_goto (tgt := 13) hx hb dX6_best_127 (by decide) ?_
                    exact ih (k + 1) (by omega) (by omega) H locs hP hS ls (lv_sub hl [2, 3, 1, 0] rfl)
                  refine lv_iload hx hb dX6_best_95 (lv_at hl 4 rfl) ?_
                  refine nz_ifeqB (tgt := 122) hx hb dX6_best_97 (by decide) (fun c_97 => ?_) (fun c_97 => ?_)
                  · refine lv_lload_n hx hb dX6_best_122 rfl (lv_at hl 2 rfl) ?_
                    exact join (lN (mx1 (fun i => dB (begF (qF mt) mt.2 (TM ml i) (ZM ml i))) ml.2.2.1 k) - 1) (by rw [mx1_keep (by first | exact Or.inl (by rw [← hgb]; exact c_97) | exact Or.inr c_109)]) H locs hP hS ls (lv_sub hl [0, 1, 3] rfl)
                  · refine lv_aload_n hx hb dX6_best_100 rfl (lv_at hl 0 rfl) ?_
                    refine va_get (D := D) (ci := 6) (v := .ref (b 4)) (C := RX6) (T := TX6) (N := 15) hx hb hts hinX6 hown hK hP 0 rfl rfl 6 (by decide) (hts (.fieldLink RX6 20 "TypoSuggesterModel" "weights" "[J") (by decide +kernel)) (fun _ h9 => h9) rfl dX6_best_101 ?_
                    refine lv_iload hx hb dX6_best_104 (lv_at hl 3 rfl) ?_
                    refine nz_lald (f := ml.2.2.1) (k := k) hx hb hK hP 4 2 rfl rfl (by omega) (by decide) dX6_best_106 ?_
                    refine lv_lload_n hx hb dX6_best_107 rfl (lv_at hl 2 rfl) ?_
                    refine W.lcmp hx hb dX6_best_108 ?_
                    refine lv_if_le (tgt := 122) hx hb dX6_best_109 (by decide) (fun c_109 => ?_) (fun c_109 => ?_)
                    · have c_109 := (mx1_cmp hmx hwk).mp c_109
                      refine lv_lload_n hx hb dX6_best_122 rfl (lv_at hl 2 rfl) ?_
                      exact join (lN (mx1 (fun i => dB (begF (qF mt) mt.2 (TM ml i) (ZM ml i))) ml.2.2.1 k) - 1) (by rw [mx1_keep (by first | exact Or.inl (by rw [← hgb]; exact c_97) | exact Or.inr c_109)]) H locs hP hS ls (lv_sub hl [0, 1, 3] rfl)
                    · have c_109 : mx1 (fun i => dB (begF (qF mt) mt.2 (TM ml i) (ZM ml i))) ml.2.2.1 k < ml.2.2.1 k + 1 := Nat.lt_of_not_le (fun z => c_109 ((mx1_cmp hmx hwk).mpr z))
                      refine lv_aload_n hx hb dX6_best_112 rfl (lv_at hl 0 rfl) ?_
                      refine va_get (D := D) (ci := 6) (v := .ref (b 4)) (C := RX6) (T := TX6) (N := 15) hx hb hts hinX6 hown hK hP 0 rfl rfl 6 (by decide) (hts (.fieldLink RX6 20 "TypoSuggesterModel" "weights" "[J") (by decide +kernel)) (fun _ h9 => h9) rfl dX6_best_113 ?_
                      refine lv_iload hx hb dX6_best_116 (lv_at hl 3 rfl) ?_
                      refine nz_lald (f := ml.2.2.1) (k := k) hx hb hK hP 4 2 rfl rfl (by omega) (by decide) dX6_best_118 ?_
                      refine lv_goto (tgt := 123) hx hb dX6_best_119 (by decide) ?_
                      exact join (lN (ml.2.2.1 k)) (by rw [mx1_t (P := fun i => dB (begF (qF mt) mt.2 (TM ml i) (ZM ml i))) (by rw [← hgb]; exact c_97), mx1_top c_109 hmx hwk]) H locs hP hS ls (lv_sub hl [0, 1, 3] rfl)
                · refine lv_iload hx hb dX6_best_54 (lv_at hl 4 rfl) ?_
                  refine nz_ifeqB (tgt := 95) hx hb dX6_best_56 (by decide) (fun c_56 => ?_) (fun c_56 => ?_)
                  · have hgb : g = dB (begF (qF mt) mt.2 (TM ml k) (ZM ml k)) := by
                      have h9 : g = true ↔ begF (qF mt) mt.2 (TM ml k) (ZM ml k) := by
                        rw [hg]
                        constructor
                        · rintro ⟨h1, h2⟩
                          refine ⟨h1, fun j hj => ?_⟩
                          have hgt := hg.mpr ⟨h1, h2⟩
                          first | exact absurd (c_56.symm.trans hgt) (by decide) | exact h2 j (by omega)
                        · intro h1
                          exact ⟨h1.1, fun j hj => h1.2 j (by omega)⟩
                      cases hg8 : g with
                      | true => rw [hg8] at h9; exact (dB_t (h9.mp rfl)).symm
                      | false => rw [hg8] at h9; exact (dB_f (fun z => absurd (h9.mpr z) (by decide))).symm
                    have join : ∀ (z : Int64), (z = lN (mx1 (fun i => dB (begF (qF mt) mt.2 (TM ml i) (ZM ml i))) ml.2.2.1 (k + 1)) - 1) → ∀ (H : Heap) (locs : List Loc), va_P D vwCl (wM b cs (mt.1, 0) ml mr mk) H → va_S (inM b) s.heap H locs → ∀ ls : Array Slot, lv_has ls 7 [(0, .ref (b 0)), (1, .int (nI (mt.2))), (4, .int (nI (k)))] → W p l e rmX6_best s m args below meth c H locs 0 0 Q (F0 m 123 ls [.long (z)]) := by
                      intro z hz9 H locs hP hS ls hl
                      refine lv_lstore_n (lv' := [(2, .long (z)), (0, .ref (b 0)), (1, .int (nI (mt.2))), (4, .int (nI (k)))]) hx hb dX6_best_123 rfl hl (by decide) rfl (fun ls hl => ?_)
                      have e_4 : (z) = (lN (mx1 (fun i => dB (begF (qF mt) mt.2 (TM ml i) (ZM ml i))) ml.2.2.1 (k + 1)) - 1) := hz9
                      have hl : lv_has ls 7 [(2, .long (lN (mx1 (fun i => dB (begF (qF mt) mt.2 (TM ml i) (ZM ml i))) ml.2.2.1 (k + 1)) - 1)), (0, .ref (b 0)), (1, .int (nI (mt.2))), (4, .int (nI (k)))] := by rw [← e_4]; exact hl
                      refine lv_iinc (v := nI (k + 1)) (lv' := [(4, .int (nI (k + 1))), (2, .long (lN (mx1 (fun i => dB (begF (qF mt) mt.2 (TM ml i) (ZM ml i))) ml.2.2.1 (k + 1)) - 1)), (0, .ref (b 0)), (1, .int (nI (mt.2)))]) hx hb dX6_best_124 hl (k := 3) rfl (nz_inc1 _) (by decide) rfl (fun ls hl => ?_)
                      refine lv_goto (tgt := 13) hx hb dX6_best_127 (by decide) ?_
                      exact ih (k + 1) (by omega) (by omega) H locs hP hS ls (lv_sub hl [2, 3, 1, 0] rfl)
                    refine lv_iload hx hb dX6_best_95 (lv_at hl 4 rfl) ?_
                    refine nz_ifeqB (tgt := 122) hx hb dX6_best_97 (by decide) (fun c_97 => ?_) (fun c_97 => ?_)
                    · refine lv_lload_n hx hb dX6_best_122 rfl (lv_at hl 2 rfl) ?_
                      exact join (lN (mx1 (fun i => dB (begF (qF mt) mt.2 (TM ml i) (ZM ml i))) ml.2.2.1 k) - 1) (by rw [mx1_keep (by first | exact Or.inl (by rw [← hgb]; exact c_97) | exact Or.inr c_109)]) H locs hP hS ls (lv_sub hl [0, 1, 3] rfl)
                    · refine lv_aload_n hx hb dX6_best_100 rfl (lv_at hl 0 rfl) ?_
                      refine va_get (D := D) (ci := 6) (v := .ref (b 4)) (C := RX6) (T := TX6) (N := 15) hx hb hts hinX6 hown hK hP 0 rfl rfl 6 (by decide) (hts (.fieldLink RX6 20 "TypoSuggesterModel" "weights" "[J") (by decide +kernel)) (fun _ h9 => h9) rfl dX6_best_101 ?_
                      refine lv_iload hx hb dX6_best_104 (lv_at hl 3 rfl) ?_
                      refine nz_lald (f := ml.2.2.1) (k := k) hx hb hK hP 4 2 rfl rfl (by omega) (by decide) dX6_best_106 ?_
                      refine lv_lload_n hx hb dX6_best_107 rfl (lv_at hl 2 rfl) ?_
                      refine W.lcmp hx hb dX6_best_108 ?_
                      refine lv_if_le (tgt := 122) hx hb dX6_best_109 (by decide) (fun c_109 => ?_) (fun c_109 => ?_)
                      · have c_109 := (mx1_cmp hmx hwk).mp c_109
                        refine lv_lload_n hx hb dX6_best_122 rfl (lv_at hl 2 rfl) ?_
                        exact join (lN (mx1 (fun i => dB (begF (qF mt) mt.2 (TM ml i) (ZM ml i))) ml.2.2.1 k) - 1) (by rw [mx1_keep (by first | exact Or.inl (by rw [← hgb]; exact c_97) | exact Or.inr c_109)]) H locs hP hS ls (lv_sub hl [0, 1, 3] rfl)
                      · have c_109 : mx1 (fun i => dB (begF (qF mt) mt.2 (TM ml i) (ZM ml i))) ml.2.2.1 k < ml.2.2.1 k + 1 := Nat.lt_of_not_le (fun z => c_109 ((mx1_cmp hmx hwk).mpr z))
                        refine lv_aload_n hx hb dX6_best_112 rfl (lv_at hl 0 rfl) ?_
                        refine va_get (D := D) (ci := 6) (v := .ref (b 4)) (C := RX6) (T := TX6) (N := 15) hx hb hts hinX6 hown hK hP 0 rfl rfl 6 (by decide) (hts (.fieldLink RX6 20 "TypoSuggesterModel" "weights" "[J") (by decide +kernel)) (fun _ h9 => h9) rfl dX6_best_113 ?_
                        refine lv_iload hx hb dX6_best_116 (lv_at hl 3 rfl) ?_
                        refine nz_lald (f := ml.2.2.1) (k := k) hx hb hK hP 4 2 rfl rfl (by omega) (by decide) dX6_best_118 ?_
                        refine lv_goto (tgt := 123) hx hb dX6_best_119 (by decide) ?_
                        exact join (lN (ml.2.2.1 k)) (by rw [mx1_t (P := fun i => dB (begF (qF mt) mt.2 (TM ml i) (ZM ml i))) (by rw [← hgb]; exact c_97), mx1_top c_109 hmx hwk]) H locs hP hS ls (lv_sub hl [0, 1, 3] rfl)
                  · refine lv_aload_n hx hb dX6_best_59 rfl (lv_at hl 0 rfl) ?_
                    refine va_get (D := D) (ci := 6) (v := .ref (b 1)) (C := RX6) (T := TX6) (N := 15) hx hb hts hinX6 hown hK hP 0 rfl rfl 0 (by decide) (hts (.fieldLink RX6 7 "TypoSuggesterModel" "tape" "[B") (by decide +kernel)) (fun _ h9 => h9) rfl dX6_best_60 ?_
                    refine lv_iload hx hb dX6_best_63 (lv_at hl 5 rfl) ?_
                    refine nz_baldR (f := mt.1) (k := k2) hx hb hK hP 1 0 rfl rfl (by omega) (by decide) dX6_best_65 ?_
                    refine lv_aload_n hx hb dX6_best_66 rfl (lv_at hl 0 rfl) ?_
                    refine va_get (D := D) (ci := 6) (v := .ref (b 2)) (C := RX6) (T := TX6) (N := 15) hx hb hts hinX6 hown hK hP 0 rfl rfl 4 (by decide) (hts (.fieldLink RX6 13 "TypoSuggesterModel" "letters" "[B") (by decide +kernel)) (fun _ h9 => h9) rfl dX6_best_67 ?_
                    refine lv_bipush (v := nI 24) hx hb dX6_best_70 (by decide +kernel) ?_
                    refine lv_iload hx hb dX6_best_72 (lv_at hl 3 rfl) ?_
                    refine nz_imul (a := 24) (b := k) hx hb dX6_best_74 ?_
                    refine lv_iload hx hb dX6_best_75 (lv_at hl 5 rfl) ?_
                    refine nz_iadd (a := 24 * k) (b := k2) hx hb dX6_best_77 ?_
                    refine nz_bald (f := ml.1) (k := 24 * k + k2) hx hb hK hP 2 0 rfl rfl (by omega) (by decide) dX6_best_78 ?_
                    refine lv_icmp_ne (tgt := 86) hx hb dX6_best_79 (by decide) (fun c_79 => ?_) (fun c_79 => ?_)
                    · refine lv_iconst (v := nI 0) hx hb dX6_best_86 (by decide +kernel) ?_
                      refine lv_istore (lv' := [(5, .int (nI (0))), (0, .ref (b 0)), (1, .int (nI (mt.2))), (2, .long (lN (mx1 (fun i => dB (begF (qF mt) mt.2 (TM ml i) (ZM ml i))) ml.2.2.1 k) - 1)), (4, .int (nI (k))), (6, .int (nI (k2)))]) hx hb dX6_best_87 hl (by decide) rfl (fun ls hl => ?_)
                      have e_5 : (nI (0)) = (bI (false)) := bI_f
                      have hl : lv_has ls 7 [(5, .int (bI (false))), (0, .ref (b 0)), (1, .int (nI (mt.2))), (2, .long (lN (mx1 (fun i => dB (begF (qF mt) mt.2 (TM ml i) (ZM ml i))) ml.2.2.1 k) - 1)), (4, .int (nI (k))), (6, .int (nI (k2)))] := by rw [← e_5]; exact hl
                      have hq9 := smB_q (hgd.2 k2 c_51)
                      have hg9 : false = true ↔ (mt.2 ≤ ml.2.1 k ∧ ∀ j, j < k2 + 1 → ml.1 (24 * k + j) = qF mt j) := ⟨(fun h => by cases h), fun h => absurd (by rw [h.2 k2 (Nat.lt_succ_self _)]; exact hq9.1) c_79⟩
                      refine lv_iinc (v := nI (k2 + 1)) (lv' := [(6, .int (nI (k2 + 1))), (5, .int (bI (false))), (0, .ref (b 0)), (1, .int (nI (mt.2))), (2, .long (lN (mx1 (fun i => dB (begF (qF mt) mt.2 (TM ml i) (ZM ml i))) ml.2.2.1 k) - 1)), (4, .int (nI (k)))]) hx hb dX6_best_89 hl (k := 5) rfl (nz_inc1 _) (by decide) rfl (fun ls hl => ?_)
                      refine lv_goto (tgt := 48) hx hb dX6_best_92 (by decide) ?_
                      exact ih2 (k2 + 1) false (by omega) hg9 (by omega) H locs hP hS ls (lv_sub hl [2, 3, 4, 5, 1, 0] rfl)
                    · refine lv_iconst (v := nI 1) hx hb dX6_best_82 (by decide +kernel) ?_
                      refine lv_goto (tgt := 87) hx hb dX6_best_83 (by decide) ?_
                      refine lv_istore (lv' := [(5, .int (nI (1))), (0, .ref (b 0)), (1, .int (nI (mt.2))), (2, .long (lN (mx1 (fun i => dB (begF (qF mt) mt.2 (TM ml i) (ZM ml i))) ml.2.2.1 k) - 1)), (4, .int (nI (k))), (6, .int (nI (k2)))]) hx hb dX6_best_87 hl (by decide) rfl (fun ls hl => ?_)
                      have e_6 : (nI (1)) = (bI (true)) := bI_t
                      have hl : lv_has ls 7 [(5, .int (bI (true))), (0, .ref (b 0)), (1, .int (nI (mt.2))), (2, .long (lN (mx1 (fun i => dB (begF (qF mt) mt.2 (TM ml i) (ZM ml i))) ml.2.2.1 k) - 1)), (4, .int (nI (k))), (6, .int (nI (k2)))] := by rw [← e_6]; exact hl
                      have hq9 := smB_q (hgd.2 k2 c_51)
                      have hg9 : true = true ↔ (mt.2 ≤ ml.2.1 k ∧ ∀ j, j < k2 + 1 → ml.1 (24 * k + j) = qF mt j) := ⟨fun _ => ⟨(hg.mp c_56).1, lt_s (hg.mp c_56).2 ((nI_eq (by have := hM3 (24 * k + k2); omega) (by have h9 : qF mt k2 < 128 := hq9.2; omega)).mp (c_79.symm.trans hq9.1))⟩, fun _ => rfl⟩
                      refine lv_iinc (v := nI (k2 + 1)) (lv' := [(6, .int (nI (k2 + 1))), (5, .int (bI (true))), (0, .ref (b 0)), (1, .int (nI (mt.2))), (2, .long (lN (mx1 (fun i => dB (begF (qF mt) mt.2 (TM ml i) (ZM ml i))) ml.2.2.1 k) - 1)), (4, .int (nI (k)))]) hx hb dX6_best_89 hl (k := 5) rfl (nz_inc1 _) (by decide) rfl (fun ls hl => ?_)
                      refine lv_goto (tgt := 48) hx hb dX6_best_92 (by decide) ?_
                      exact ih2 (k2 + 1) true (by omega) hg9 (by omega) H locs hP hS ls (lv_sub hl [2, 3, 4, 5, 1, 0] rfl)
            exact loop2 (mt.2 - 0 + 1) 0 false (Nat.zero_le _) (⟨(fun h => by cases h), fun h => absurd h.1 (by omega)⟩) (Nat.lt_succ_self _) H locs hP hS ls (lv_sub hl [2, 3, 4, 5, 1, 0] rfl)
          · refine lv_iconst (v := nI 1) hx hb dX6_best_38 (by decide +kernel) ?_
            refine lv_goto (tgt := 43) hx hb dX6_best_39 (by decide) ?_
            refine lv_istore (lv' := [(5, .int (nI (1))), (0, .ref (b 0)), (1, .int (nI (mt.2))), (2, .long (lN (mx1 (fun i => dB (begF (qF mt) mt.2 (TM ml i) (ZM ml i))) ml.2.2.1 k) - 1)), (4, .int (nI (k)))]) hx hb dX6_best_43 hl (by decide) rfl (fun ls hl => ?_)
            have e_7 : (nI (1)) = (bI (true)) := bI_t
            have hl : lv_has ls 7 [(5, .int (bI (true))), (0, .ref (b 0)), (1, .int (nI (mt.2))), (2, .long (lN (mx1 (fun i => dB (begF (qF mt) mt.2 (TM ml i) (ZM ml i))) ml.2.2.1 k) - 1)), (4, .int (nI (k)))] := by rw [← e_7]; exact hl
            refine lv_iconst (v := nI 0) hx hb dX6_best_45 (by decide +kernel) ?_
            refine lv_istore (lv' := [(6, .int (nI (0))), (5, .int (bI (true))), (0, .ref (b 0)), (1, .int (nI (mt.2))), (2, .long (lN (mx1 (fun i => dB (begF (qF mt) mt.2 (TM ml i) (ZM ml i))) ml.2.2.1 k) - 1)), (4, .int (nI (k)))]) hx hb dX6_best_46 hl (by decide) rfl (fun ls hl => ?_)
            have loop2 : ∀ (fuel : Nat) (k2 : Nat) (g : Bool), (k2 ≤ mt.2) → (g = true ↔ (mt.2 ≤ ml.2.1 k ∧ ∀ j, j < k2 → ml.1 (24 * k + j) = qF mt j)) → mt.2 - k2 < fuel → ∀ (H : Heap) (locs : List Loc), va_P D vwCl (wM b cs (mt.1, 0) ml mr mk) H → va_S (inM b) s.heap H locs → ∀ ls : Array Slot, lv_has ls 7 [(0, .ref (b 0)), (1, .int (nI (mt.2))), (2, .long (lN (mx1 (fun i => dB (begF (qF mt) mt.2 (TM ml i) (ZM ml i))) ml.2.2.1 k) - 1)), (4, .int (nI (k))), (5, .int (bI (g))), (6, .int (nI (k2)))] → W p l e rmX6_best s m args below meth c H locs 0 0 Q (F0 m 48 ls []) := by
              intro fuel
              induction fuel with
              | zero => intro k2 g hk2 hg hf; exact absurd hf (Nat.not_lt_zero _)
              | succ fuel ih2 =>
                intro k2 g hk2 hg hf H locs hP hS ls hl
                refine lv_iload hx hb dX6_best_48 (lv_at hl 5 rfl) ?_
                refine lv_iload_n hx hb dX6_best_50 rfl (lv_at hl 1 rfl) ?_
                refine nz_cge (a := k2) (b := mt.2) (tgt := 95) hx hb dX6_best_51 (by decide) (by omega) (by omega) (fun c_51 => ?_) (fun c_51 => ?_)
                · have hgb : g = dB (begF (qF mt) mt.2 (TM ml k) (ZM ml k)) := by
                    have h9 : g = true ↔ begF (qF mt) mt.2 (TM ml k) (ZM ml k) := by
                      rw [hg]
                      constructor
                      · rintro ⟨h1, h2⟩
                        refine ⟨h1, fun j hj => ?_⟩
                        have hgt := hg.mpr ⟨h1, h2⟩
                        first | exact absurd (c_56.symm.trans hgt) (by decide) | exact h2 j (by omega)
                      · intro h1
                        exact ⟨h1.1, fun j hj => h1.2 j (by omega)⟩
                    cases hg8 : g with
                    | true => rw [hg8] at h9; exact (dB_t (h9.mp rfl)).symm
                    | false => rw [hg8] at h9; exact (dB_f (fun z => absurd (h9.mpr z) (by decide))).symm
                  have join : ∀ (z : Int64), (z = lN (mx1 (fun i => dB (begF (qF mt) mt.2 (TM ml i) (ZM ml i))) ml.2.2.1 (k + 1)) - 1) → ∀ (H : Heap) (locs : List Loc), va_P D vwCl (wM b cs (mt.1, 0) ml mr mk) H → va_S (inM b) s.heap H locs → ∀ ls : Array Slot, lv_has ls 7 [(0, .ref (b 0)), (1, .int (nI (mt.2))), (4, .int (nI (k)))] → W p l e rmX6_best s m args below meth c H locs 0 0 Q (F0 m 123 ls [.long (z)]) := by
                    intro z hz9 H locs hP hS ls hl
                    refine lv_lstore_n (lv' := [(2, .long (z)), (0, .ref (b 0)), (1, .int (nI (mt.2))), (4, .int (nI (k)))]) hx hb dX6_best_123 rfl hl (by decide) rfl (fun ls hl => ?_)
                    have e_8 : (z) = (lN (mx1 (fun i => dB (begF (qF mt) mt.2 (TM ml i) (ZM ml i))) ml.2.2.1 (k + 1)) - 1) := hz9
                    have hl : lv_has ls 7 [(2, .long (lN (mx1 (fun i => dB (begF (qF mt) mt.2 (TM ml i) (ZM ml i))) ml.2.2.1 (k + 1)) - 1)), (0, .ref (b 0)), (1, .int (nI (mt.2))), (4, .int (nI (k)))] := by rw [← e_8]; exact hl
                    refine lv_iinc (v := nI (k + 1)) (lv' := [(4, .int (nI (k + 1))), (2, .long (lN (mx1 (fun i => dB (begF (qF mt) mt.2 (TM ml i) (ZM ml i))) ml.2.2.1 (k + 1)) - 1)), (0, .ref (b 0)), (1, .int (nI (mt.2)))]) hx hb dX6_best_124 hl (k := 3) rfl (nz_inc1 _) (by decide) rfl (fun ls hl => ?_)
                    refine lv_goto (tgt := 13) hx hb dX6_best_127 (by decide) ?_
                    exact ih (k + 1) (by omega) (by omega) H locs hP hS ls (lv_sub hl [2, 3, 1, 0] rfl)
                  refine lv_iload hx hb dX6_best_95 (lv_at hl 4 rfl) ?_
                  refine nz_ifeqB (tgt := 122) hx hb dX6_best_97 (by decide) (fun c_97 => ?_) (fun c_97 => ?_)
                  · refine lv_lload_n hx hb dX6_best_122 rfl (lv_at hl 2 rfl) ?_
                    exact join (lN (mx1 (fun i => dB (begF (qF mt) mt.2 (TM ml i) (ZM ml i))) ml.2.2.1 k) - 1) (by rw [mx1_keep (by first | exact Or.inl (by rw [← hgb]; exact c_97) | exact Or.inr c_109)]) H locs hP hS ls (lv_sub hl [0, 1, 3] rfl)
                  · refine lv_aload_n hx hb dX6_best_100 rfl (lv_at hl 0 rfl) ?_
                    refine va_get (D := D) (ci := 6) (v := .ref (b 4)) (C := RX6) (T := TX6) (N := 15) hx hb hts hinX6 hown hK hP 0 rfl rfl 6 (by decide) (hts (.fieldLink RX6 20 "TypoSuggesterModel" "weights" "[J") (by decide +kernel)) (fun _ h9 => h9) rfl dX6_best_101 ?_
                    refine lv_iload hx hb dX6_best_104 (lv_at hl 3 rfl) ?_
                    refine nz_lald (f := ml.2.2.1) (k := k) hx hb hK hP 4 2 rfl rfl (by omega) (by decide) dX6_best_106 ?_
                    refine lv_lload_n hx hb dX6_best_107 rfl (lv_at hl 2 rfl) ?_
                    refine W.lcmp hx hb dX6_best_108 ?_
                    refine lv_if_le (tgt := 122) hx hb dX6_best_109 (by decide) (fun c_109 => ?_) (fun c_109 => ?_)
                    · have c_109 := (mx1_cmp hmx hwk).mp c_109
                      refine lv_lload_n hx hb dX6_best_122 rfl (lv_at hl 2 rfl) ?_
                      exact join (lN (mx1 (fun i => dB (begF (qF mt) mt.2 (TM ml i) (ZM ml i))) ml.2.2.1 k) - 1) (by rw [mx1_keep (by first | exact Or.inl (by rw [← hgb]; exact c_97) | exact Or.inr c_109)]) H locs hP hS ls (lv_sub hl [0, 1, 3] rfl)
                    · have c_109 : mx1 (fun i => dB (begF (qF mt) mt.2 (TM ml i) (ZM ml i))) ml.2.2.1 k < ml.2.2.1 k + 1 := Nat.lt_of_not_le (fun z => c_109 ((mx1_cmp hmx hwk).mpr z))
                      refine lv_aload_n hx hb dX6_best_112 rfl (lv_at hl 0 rfl) ?_
                      refine va_get (D := D) (ci := 6) (v := .ref (b 4)) (C := RX6) (T := TX6) (N := 15) hx hb hts hinX6 hown hK hP 0 rfl rfl 6 (by decide) (hts (.fieldLink RX6 20 "TypoSuggesterModel" "weights" "[J") (by decide +kernel)) (fun _ h9 => h9) rfl dX6_best_113 ?_
                      refine lv_iload hx hb dX6_best_116 (lv_at hl 3 rfl) ?_
                      refine nz_lald (f := ml.2.2.1) (k := k) hx hb hK hP 4 2 rfl rfl (by omega) (by decide) dX6_best_118 ?_
                      refine lv_goto (tgt := 123) hx hb dX6_best_119 (by decide) ?_
                      exact join (lN (ml.2.2.1 k)) (by rw [mx1_t (P := fun i => dB (begF (qF mt) mt.2 (TM ml i) (ZM ml i))) (by rw [← hgb]; exact c_97), mx1_top c_109 hmx hwk]) H locs hP hS ls (lv_sub hl [0, 1, 3] rfl)
                · refine lv_iload hx hb dX6_best_54 (lv_at hl 4 rfl) ?_
                  refine nz_ifeqB (tgt := 95) hx hb dX6_best_56 (by decide) (fun c_56 => ?_) (fun c_56 => ?_)
                  · have hgb : g = dB (begF (qF mt) mt.2 (TM ml k) (ZM ml k)) := by
                      have h9 : g = true ↔ begF (qF mt) mt.2 (TM ml k) (ZM ml k) := by
                        rw [hg]
                        constructor
                        · rintro ⟨h1, h2⟩
                          refine ⟨h1, fun j hj => ?_⟩
                          have hgt := hg.mpr ⟨h1, h2⟩
                          first | exact absurd (c_56.symm.trans hgt) (by decide) | exact h2 j (by omega)
                        · intro h1
                          exact ⟨h1.1, fun j hj => h1.2 j (by omega)⟩
                      cases hg8 : g with
                      | true => rw [hg8] at h9; exact (dB_t (h9.mp rfl)).symm
                      | false => rw [hg8] at h9; exact (dB_f (fun z => absurd (h9.mpr z) (by decide))).symm
                    have join : ∀ (z : Int64), (z = lN (mx1 (fun i => dB (begF (qF mt) mt.2 (TM ml i) (ZM ml i))) ml.2.2.1 (k + 1)) - 1) → ∀ (H : Heap) (locs : List Loc), va_P D vwCl (wM b cs (mt.1, 0) ml mr mk) H → va_S (inM b) s.heap H locs → ∀ ls : Array Slot, lv_has ls 7 [(0, .ref (b 0)), (1, .int (nI (mt.2))), (4, .int (nI (k)))] → W p l e rmX6_best s m args below meth c H locs 0 0 Q (F0 m 123 ls [.long (z)]) := by
                      intro z hz9 H locs hP hS ls hl
                      refine lv_lstore_n (lv' := [(2, .long (z)), (0, .ref (b 0)), (1, .int (nI (mt.2))), (4, .int (nI (k)))]) hx hb dX6_best_123 rfl hl (by decide) rfl (fun ls hl => ?_)
                      have e_9 : (z) = (lN (mx1 (fun i => dB (begF (qF mt) mt.2 (TM ml i) (ZM ml i))) ml.2.2.1 (k + 1)) - 1) := hz9
                      have hl : lv_has ls 7 [(2, .long (lN (mx1 (fun i => dB (begF (qF mt) mt.2 (TM ml i) (ZM ml i))) ml.2.2.1 (k + 1)) - 1)), (0, .ref (b 0)), (1, .int (nI (mt.2))), (4, .int (nI (k)))] := by rw [← e_9]; exact hl
                      refine lv_iinc (v := nI (k + 1)) (lv' := [(4, .int (nI (k + 1))), (2, .long (lN (mx1 (fun i => dB (begF (qF mt) mt.2 (TM ml i) (ZM ml i))) ml.2.2.1 (k + 1)) - 1)), (0, .ref (b 0)), (1, .int (nI (mt.2)))]) hx hb dX6_best_124 hl (k := 3) rfl (nz_inc1 _) (by decide) rfl (fun ls hl => ?_)
                      refine lv_goto (tgt := 13) hx hb dX6_best_127 (by decide) ?_
                      exact ih (k + 1) (by omega) (by omega) H locs hP hS ls (lv_sub hl [2, 3, 1, 0] rfl)
                    refine lv_iload hx hb dX6_best_95 (lv_at hl 4 rfl) ?_
                    refine nz_ifeqB (tgt := 122) hx hb dX6_best_97 (by decide) (fun c_97 => ?_) (fun c_97 => ?_)
                    · refine lv_lload_n hx hb dX6_best_122 rfl (lv_at hl 2 rfl) ?_
                      exact join (lN (mx1 (fun i => dB (begF (qF mt) mt.2 (TM ml i) (ZM ml i))) ml.2.2.1 k) - 1) (by rw [mx1_keep (by first | exact Or.inl (by rw [← hgb]; exact c_97) | exact Or.inr c_109)]) H locs hP hS ls (lv_sub hl [0, 1, 3] rfl)
                    · refine lv_aload_n hx hb dX6_best_100 rfl (lv_at hl 0 rfl) ?_
                      refine va_get (D := D) (ci := 6) (v := .ref (b 4)) (C := RX6) (T := TX6) (N := 15) hx hb hts hinX6 hown hK hP 0 rfl rfl 6 (by decide) (hts (.fieldLink RX6 20 "TypoSuggesterModel" "weights" "[J") (by decide +kernel)) (fun _ h9 => h9) rfl dX6_best_101 ?_
                      refine lv_iload hx hb dX6_best_104 (lv_at hl 3 rfl) ?_
                      refine nz_lald (f := ml.2.2.1) (k := k) hx hb hK hP 4 2 rfl rfl (by omega) (by decide) dX6_best_106 ?_
                      refine lv_lload_n hx hb dX6_best_107 rfl (lv_at hl 2 rfl) ?_
                      refine W.lcmp hx hb dX6_best_108 ?_
                      refine lv_if_le (tgt := 122) hx hb dX6_best_109 (by decide) (fun c_109 => ?_) (fun c_109 => ?_)
                      · have c_109 := (mx1_cmp hmx hwk).mp c_109
                        refine lv_lload_n hx hb dX6_best_122 rfl (lv_at hl 2 rfl) ?_
                        exact join (lN (mx1 (fun i => dB (begF (qF mt) mt.2 (TM ml i) (ZM ml i))) ml.2.2.1 k) - 1) (by rw [mx1_keep (by first | exact Or.inl (by rw [← hgb]; exact c_97) | exact Or.inr c_109)]) H locs hP hS ls (lv_sub hl [0, 1, 3] rfl)
                      · have c_109 : mx1 (fun i => dB (begF (qF mt) mt.2 (TM ml i) (ZM ml i))) ml.2.2.1 k < ml.2.2.1 k + 1 := Nat.lt_of_not_le (fun z => c_109 ((mx1_cmp hmx hwk).mpr z))
                        refine lv_aload_n hx hb dX6_best_112 rfl (lv_at hl 0 rfl) ?_
                        refine va_get (D := D) (ci := 6) (v := .ref (b 4)) (C := RX6) (T := TX6) (N := 15) hx hb hts hinX6 hown hK hP 0 rfl rfl 6 (by decide) (hts (.fieldLink RX6 20 "TypoSuggesterModel" "weights" "[J") (by decide +kernel)) (fun _ h9 => h9) rfl dX6_best_113 ?_
                        refine lv_iload hx hb dX6_best_116 (lv_at hl 3 rfl) ?_
                        refine nz_lald (f := ml.2.2.1) (k := k) hx hb hK hP 4 2 rfl rfl (by omega) (by decide) dX6_best_118 ?_
                        refine lv_goto (tgt := 123) hx hb dX6_best_119 (by decide) ?_
                        exact join (lN (ml.2.2.1 k)) (by rw [mx1_t (P := fun i => dB (begF (qF mt) mt.2 (TM ml i) (ZM ml i))) (by rw [← hgb]; exact c_97), mx1_top c_109 hmx hwk]) H locs hP hS ls (lv_sub hl [0, 1, 3] rfl)
                  · refine lv_aload_n hx hb dX6_best_59 rfl (lv_at hl 0 rfl) ?_
                    refine va_get (D := D) (ci := 6) (v := .ref (b 1)) (C := RX6) (T := TX6) (N := 15) hx hb hts hinX6 hown hK hP 0 rfl rfl 0 (by decide) (hts (.fieldLink RX6 7 "TypoSuggesterModel" "tape" "[B") (by decide +kernel)) (fun _ h9 => h9) rfl dX6_best_60 ?_
                    refine lv_iload hx hb dX6_best_63 (lv_at hl 5 rfl) ?_
                    refine nz_baldR (f := mt.1) (k := k2) hx hb hK hP 1 0 rfl rfl (by omega) (by decide) dX6_best_65 ?_
                    refine lv_aload_n hx hb dX6_best_66 rfl (lv_at hl 0 rfl) ?_
                    refine va_get (D := D) (ci := 6) (v := .ref (b 2)) (C := RX6) (T := TX6) (N := 15) hx hb hts hinX6 hown hK hP 0 rfl rfl 4 (by decide) (hts (.fieldLink RX6 13 "TypoSuggesterModel" "letters" "[B") (by decide +kernel)) (fun _ h9 => h9) rfl dX6_best_67 ?_
                    refine lv_bipush (v := nI 24) hx hb dX6_best_70 (by decide +kernel) ?_
                    refine lv_iload hx hb dX6_best_72 (lv_at hl 3 rfl) ?_
                    refine nz_imul (a := 24) (b := k) hx hb dX6_best_74 ?_
                    refine lv_iload hx hb dX6_best_75 (lv_at hl 5 rfl) ?_
                    refine nz_iadd (a := 24 * k) (b := k2) hx hb dX6_best_77 ?_
                    refine nz_bald (f := ml.1) (k := 24 * k + k2) hx hb hK hP 2 0 rfl rfl (by omega) (by decide) dX6_best_78 ?_
                    refine lv_icmp_ne (tgt := 86) hx hb dX6_best_79 (by decide) (fun c_79 => ?_) (fun c_79 => ?_)
                    · refine lv_iconst (v := nI 0) hx hb dX6_best_86 (by decide +kernel) ?_
                      refine lv_istore (lv' := [(5, .int (nI (0))), (0, .ref (b 0)), (1, .int (nI (mt.2))), (2, .long (lN (mx1 (fun i => dB (begF (qF mt) mt.2 (TM ml i) (ZM ml i))) ml.2.2.1 k) - 1)), (4, .int (nI (k))), (6, .int (nI (k2)))]) hx hb dX6_best_87 hl (by decide) rfl (fun ls hl => ?_)
                      have e_10 : (nI (0)) = (bI (false)) := bI_f
                      have hl : lv_has ls 7 [(5, .int (bI (false))), (0, .ref (b 0)), (1, .int (nI (mt.2))), (2, .long (lN (mx1 (fun i => dB (begF (qF mt) mt.2 (TM ml i) (ZM ml i))) ml.2.2.1 k) - 1)), (4, .int (nI (k))), (6, .int (nI (k2)))] := by rw [← e_10]; exact hl
                      have hq9 := smB_q (hgd.2 k2 c_51)
                      have hg9 : false = true ↔ (mt.2 ≤ ml.2.1 k ∧ ∀ j, j < k2 + 1 → ml.1 (24 * k + j) = qF mt j) := ⟨(fun h => by cases h), fun h => absurd (by rw [h.2 k2 (Nat.lt_succ_self _)]; exact hq9.1) c_79⟩
                      refine lv_iinc (v := nI (k2 + 1)) (lv' := [(6, .int (nI (k2 + 1))), (5, .int (bI (false))), (0, .ref (b 0)), (1, .int (nI (mt.2))), (2, .long (lN (mx1 (fun i => dB (begF (qF mt) mt.2 (TM ml i) (ZM ml i))) ml.2.2.1 k) - 1)), (4, .int (nI (k)))]) hx hb dX6_best_89 hl (k := 5) rfl (nz_inc1 _) (by decide) rfl (fun ls hl => ?_)
                      refine lv_goto (tgt := 48) hx hb dX6_best_92 (by decide) ?_
                      exact ih2 (k2 + 1) false (by omega) hg9 (by omega) H locs hP hS ls (lv_sub hl [2, 3, 4, 5, 1, 0] rfl)
                    · refine lv_iconst (v := nI 1) hx hb dX6_best_82 (by decide +kernel) ?_
                      refine lv_goto (tgt := 87) hx hb dX6_best_83 (by decide) ?_
                      refine lv_istore (lv' := [(5, .int (nI (1))), (0, .ref (b 0)), (1, .int (nI (mt.2))), (2, .long (lN (mx1 (fun i => dB (begF (qF mt) mt.2 (TM ml i) (ZM ml i))) ml.2.2.1 k) - 1)), (4, .int (nI (k))), (6, .int (nI (k2)))]) hx hb dX6_best_87 hl (by decide) rfl (fun ls hl => ?_)
                      have e_11 : (nI (1)) = (bI (true)) := bI_t
                      have hl : lv_has ls 7 [(5, .int (bI (true))), (0, .ref (b 0)), (1, .int (nI (mt.2))), (2, .long (lN (mx1 (fun i => dB (begF (qF mt) mt.2 (TM ml i) (ZM ml i))) ml.2.2.1 k) - 1)), (4, .int (nI (k))), (6, .int (nI (k2)))] := by rw [← e_11]; exact hl
                      have hq9 := smB_q (hgd.2 k2 c_51)
                      have hg9 : true = true ↔ (mt.2 ≤ ml.2.1 k ∧ ∀ j, j < k2 + 1 → ml.1 (24 * k + j) = qF mt j) := ⟨fun _ => ⟨(hg.mp c_56).1, lt_s (hg.mp c_56).2 ((nI_eq (by have := hM3 (24 * k + k2); omega) (by have h9 : qF mt k2 < 128 := hq9.2; omega)).mp (c_79.symm.trans hq9.1))⟩, fun _ => rfl⟩
                      refine lv_iinc (v := nI (k2 + 1)) (lv' := [(6, .int (nI (k2 + 1))), (5, .int (bI (true))), (0, .ref (b 0)), (1, .int (nI (mt.2))), (2, .long (lN (mx1 (fun i => dB (begF (qF mt) mt.2 (TM ml i) (ZM ml i))) ml.2.2.1 k) - 1)), (4, .int (nI (k)))]) hx hb dX6_best_89 hl (k := 5) rfl (nz_inc1 _) (by decide) rfl (fun ls hl => ?_)
                      refine lv_goto (tgt := 48) hx hb dX6_best_92 (by decide) ?_
                      exact ih2 (k2 + 1) true (by omega) hg9 (by omega) H locs hP hS ls (lv_sub hl [2, 3, 4, 5, 1, 0] rfl)
            exact loop2 (mt.2 - 0 + 1) 0 true (Nat.zero_le _) (⟨fun _ => ⟨c_35, fun j h => absurd h (Nat.not_lt_zero _)⟩, fun _ => rfl⟩) (Nat.lt_succ_self _) H locs hP hS ls (lv_sub hl [2, 3, 4, 5, 1, 0] rfl)
    exact loop (ml.2.2.2.1 - 0 + 1) 0 (Nat.zero_le _) (Nat.lt_succ_self _) H locs hP hS ls (lv_sub hl [3, 2, 1, 0] rfl)
