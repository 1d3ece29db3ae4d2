/-! The outer object's methods: set, drop, weight, rank, near, best, and those that only read. -/
section NC
variable {p : Program} {l : Launch} {e : Env} {R : Room} {s : State} {m : MethodId} {args : Array Value} {below : List Frame} {meth : Method} {c : Code} {H : Heap} {locs : List Loc} {cells slots : Nat} {Q : State → Prop}
variable {cc : ByteArray} {pc : Nat} {ls : Array Slot} {rest : List Value}
theorem nz_lRlt {x y : Int64} {off : Int} {tgt : Nat} (hexec : p.tables.exec = Jvm.exec) (hb : c.code = cc) (hdg : decode cc pc = .ok (.ifCond .lt off, 3)) (ht : (pc : Int) + off = (tgt : Int)) (kt : x < y → W p l e R s m args below meth c H locs cells slots Q (F0 m tgt ls rest)) (kf : ¬ x < y → W p l e R s m args below meth c H locs cells slots Q (F0 m (pc + 3) ls rest)) : W p l e R s m args below meth c H locs cells slots Q (F0 m pc ls (.int (lg_cmp x y) :: rest)) := by
  by_cases h1 : y < x
  · have e1 : lg_cmp x y = 1 := by simp [lg_cmp, h1]
    rw [e1]
    exact lv_if_lt hexec hb hdg ht (fun z => absurd z (by decide)) (fun _ => kf (fun z => Int64.lt_irrefl (Int64.lt_trans z h1)))
  · by_cases h2 : x = y
    · have e1 : lg_cmp x y = 0 := by subst h2; simp [lg_cmp]
      rw [e1]
      exact lv_if_lt hexec hb hdg ht (fun z => absurd z (by decide)) (fun _ => kf (fun z => by rw [h2] at z; exact Int64.lt_irrefl z))
    · have e1 : lg_cmp x y = -1 := by simp [lg_cmp, h1, h2]
      rw [e1]
      refine lv_if_lt hexec hb hdg ht (fun _ => kt ?_) (fun z => absurd (by decide) z)
      rw [Int64.lt_iff_toInt_lt] at h1 ⊢
      have h3 : x.toInt ≠ y.toInt := fun z => h2 (Int64.toInt_inj.mp z)
      omega
end NC
def setOk (x : Int64) : Prop := ¬ x < 0 ∧ ¬ lN 1000000000000 < x
def lW (x : Int64) : Nat := x.toInt.toNat
theorem lW_lN {n : Nat} (h : n < 2 ^ 63) : lW (lN n) = n := by
  unfold lW
  rw [pk_lT h]
  rfl
theorem lxIns_congr2 {lx : LxT} {wd : (Nat → Nat) × Nat} {f : Nat → Nat} {n p wt : Nat} (e : wd.2 = n ∧ ∀ j, j < n → wd.1 j = f j) : lxIns lx wd p wt = lxIns lx (f, n) p wt := by
  obtain ⟨rfl, e⟩ := e
  exact lxIns_congr (f := wd.1) e
theorem pb_ne {b : Bool} {r : Nat} (h : ¬ (bif b then nI r else (-1)) = -1) : b = true := by
  cases b with
  | true => rfl
  | false => exact absurd rfl h
theorem pb_eq {b : Bool} {r : Nat} (hr : r < 2 ^ 31) (h : (bif b then nI r else (-1)) = -1) : b = false := by
  cases b with
  | false => rfl
  | true =>
    have h : nI r = -1 := h
    exact absurd (by rw [h]; decide +kernel) (nI_pos hr)
def dOk (x : Int32) : Prop := ¬ x < 0 ∧ x.toNatClampNeg ≤ 2
/-- one more than the greatest V i of those i below n with P; 0 if there is none -/
def mx1 (P : Nat → Bool) (V : Nat → Nat) : Nat → Nat
  | 0 => 0
  | n + 1 => if P n then max (mx1 P V n) (V n + 1) else mx1 P V n
theorem mx1_congr {P P' : Nat → Bool} {V V' : Nat → Nat} : ∀ {n : Nat}, (∀ i, i < n → P i = P' i) → (∀ i, i < n → V i = V' i) → mx1 P V n = mx1 P' V' n
  | 0, _, _ => rfl
  | n + 1, h, h2 => by
    unfold mx1
    rw [h n (Nat.lt_succ_self n), h2 n (Nat.lt_succ_self n), mx1_congr (fun i hi => h i (Nat.lt_succ_of_lt hi)) (fun i hi => h2 i (Nat.lt_succ_of_lt hi))]
theorem mx1_le {P : Nat → Bool} {V : Nat → Nat} {M : Nat} (h : ∀ i, V i ≤ M) : ∀ n, mx1 P V n ≤ M + 1
  | 0 => Nat.zero_le _
  | n + 1 => by
    unfold mx1
    have h1 := mx1_le h n (P := P)
    have h2 := h n
    split <;> omega
theorem mx1_t {P : Nat → Bool} {V : Nat → Nat} {n : Nat} (h : P n = true) : mx1 P V (n + 1) = max (mx1 P V n) (V n + 1) := by
  show (if P n then _ else _) = _
  rw [if_pos h]
theorem mx1_none {P : Nat → Bool} {V : Nat → Nat} {k : Nat} : ∀ n, k ≤ n → (∀ i, k ≤ i → i < n → P i = false) → mx1 P V n = mx1 P V k
  | 0, h, _ => by rw [show k = 0 by omega]
  | n + 1, h, h2 => by
    rcases Nat.lt_or_ge k (n + 1) with z | z
    · show (if P n then _ else _) = _
      rw [if_neg (by rw [h2 n (by omega) (Nat.lt_succ_self n)]; decide)]
      exact mx1_none n (by omega) (fun i h3 h4 => h2 i h3 (by omega))
    · rw [show k = n + 1 by omega]
theorem mx1_max {g w : Nat} (hg : g ≤ 1000000000001) (hw : w ≤ 1000000000000) : (if lN w < lN g - 1 then lN g - 1 else lN w) = lN (max g (w + 1)) - 1 := by
  rcases Nat.eq_zero_or_pos g with h | h
  · subst h
    rw [if_neg (fun z => by
      have h1 : lN w < lN 0 := Int64.lt_trans z (by decide +kernel)
      rw [pk_lLT (by omega) (by decide)] at h1
      omega), show max 0 (w + 1) = w + 1 by omega, show (1 : Int64) = lN 1 from rfl, lN_sub (by omega)]
    rfl
  · rw [show (1 : Int64) = lN 1 from rfl, lN_sub (by omega), lN_sub (by omega)]
    by_cases z : w < g - 1
    · rw [if_pos ((pk_lLT (by omega) (by omega)).mpr z)]
      congr 1
      omega
    · rw [if_neg (fun y => z ((pk_lLT (by omega) (by omega)).mp y))]
      congr 1
      omega
/-- the row t of z letters begins with the n letters q -/
def begF (q : Nat → Nat) (n : Nat) (t : Nat → Nat) (z : Nat) : Prop := n ≤ z ∧ ∀ j, j < n → t j = q j
theorem beg_nlt {q t : Nat → Nat} {n z : Nat} (h : begF q n t z) : ¬ ltF t z q n := by
  rintro ⟨r, hr, h2, h3⟩
  have h4 := hr.1
  have h5 := h.1
  have h6 := h.2 r (by omega)
  omega
theorem beg_after {q t u : Nat → Nat} {n z y : Nat} (h1 : ¬ ltF t z q n) (h2 : ¬ begF q n t z) (h3 : ltF t z u y) : ¬ begF q n u y := by
  intro h
  obtain ⟨s, hs⟩ := lcp_ex t q (min z n)
  rw [ltF_iff hs] at h1
  have s1 := hs.1
  have sn : s < n := by
    rcases Nat.lt_or_ge s n with x | x
    · exact x
    · exact absurd ⟨by omega, fun j hj => hs.2.1 j (by omega)⟩ h2
  have sz : s < z := by omega
  have s3 := hs.2.2 (by omega)
  have s4 := h.2 s sn
  have h5 := h.1
  refine ltF_asym h3 ⟨s, ⟨by omega, fun j hj => ?_, fun _ => by omega⟩, by omega, Or.inr (by omega)⟩
  rw [h.2 j (by omega), hs.2.1 j hj]
def ofL (n : Nat) (z w nr : Nat → Nat) (i what : Int32) : Int64 := if ¬ i < 0 ∧ i.toNatClampNeg < n then (if what = 0 then lN (z i.toNatClampNeg) else if what = 1 then lN (w i.toNatClampNeg) else if what = 2 then lN (nr i.toNatClampNeg) else -1) else -1
theorem ofL_congr {n : Nat} {z z' w w' nr nr' : Nat → Nat} (h : ∀ i, i < n → z i = z' i ∧ w i = w' i ∧ nr i = nr' i) (i what : Int32) : ofL n z w nr i what = ofL n z' w' nr' i what := by
  unfold ofL
  by_cases hh : ¬ i < 0 ∧ i.toNatClampNeg < n
  · rw [if_pos hh, if_pos hh, (h _ hh.2).1, (h _ hh.2).2.1, (h _ hh.2).2.2]
  · rw [if_neg hh, if_neg hh]
abbrev rmX5_set : Room := { frames := 4, cells := 0, slots := 0, locals := 94 }
set_option maxHeartbeats 4000000 in
set_option maxRecDepth 100000 in
theorem mX5_set (l : Launch) (D : va_G) (a : Nat → Nat) (cs : Nat → ClassId) (tp : (Nat → Int32) × Nat) (wd : (Nat → Nat) × Nat) (lx : (Nat → Nat) × (Nat → Nat) × (Nat → Nat) × Nat) (ro : Nat → Nat) (rs : (Nat → Nat) × (Nat → Nat) × (Nat → Nat) × (Nat → Nat) × (Nat → Nat) × Nat) (x : Int64) (bb : Bool) (r : Nat) (b1 : Bool) (b2 : Bool) (b3 : Bool) (ha : wInj a) (hI : LxI lx) (hT : tp.2 ≤ 400) (hW : WdB wd) (hbb : bb = true ↔ (goodT tp ∧ 0 < tp.2)) (hr : PLp lx (qF tp) tp.2 r) (hb1 : b1 = true ↔ stdX lx (qF tp) tp.2 r) (hb2 : b2 = true ↔ roomX lx tp.2) (hb3 : b3 = true ↔ setOk x) : Met l yX5_set wsX5_set rmX5_set (wdP D vwCl (wX a cs tp wd lx ro rs) (tyX cs) [.ref (a 0), .long (x)]) (wrQ (some (.int (bif (bb && b3) then (bif b1 then nI 0 else (bif b2 then nI 1 else (-2))) else (-1)))) (fun H => ∃ wd2, WdB wd2 ∧ va_P D vwCl (wX a cs (tp.1, 0) wd2 (bif (bb && b3) then (bif b1 then lxSet lx r (lW x) else (bif b2 then lxIns lx (qF tp, tp.2) r (lW x) else lx)) else lx) ro rs) H) (inX a)) 0 0 (inX a) := by
  refine nz_metWi (by decide) rfl (Nat.le_of_ble_eq_true rfl) rfl ?_
  intro p e s m args below meth c Q hx hb hml hts hown hP hK hret ls hl
  have hl : lv_has ls 4 [(0, .ref (a 0)), (1, .long (x))] := hl
  have hown : s.vm.findClass RX5 = some m.cls := hown
  have hinX5 : ∀ w ∈ u_ws RX5 TX5 5, w ∈ wsX5_set := by decide +kernel
  have hinX0 : ∀ w ∈ u_ws RX0 TX0 4, w ∈ wsX5_set := by decide +kernel
  have hS : va_S (inX a) s.heap s.heap [] := va_S.rf
  obtain ⟨H, hH⟩ : ∃ H, H = s.heap := ⟨_, rfl⟩
  obtain ⟨locs, hlocs⟩ : ∃ locs : List Loc, locs = [] := ⟨_, rfl⟩
  have hP : va_P D vwCl (wX a cs tp wd lx ro rs) H := hH ▸ hP
  have hS : va_S (inX a) s.heap H locs := by rw [hH, hlocs]; exact va_S.rf
  suffices hgo : W p l e rmX5_set s m args below meth c H locs 0 0 Q (F0 m 0 ls []) by rw [hH, hlocs] at hgo; exact hgo
  clear hH hlocs
  refine lv_aload_n hx hb dX5_set_0 rfl (lv_at hl 0 rfl) ?_
  refine nz_callW (va_runV (As := []) (rest := []) ⟨hx, hb, hml, hown, hts⟩ (mX5_takeTerm l D a cs tp wd lx ro rs bb ha hT hW hbb) (cwV 0 hts gX5_set_X5_takeTerm rfl rfl rfl (by decide +kernel) ⟨Nat.le_of_ble_eq_true rfl, Nat.le_of_ble_eq_true rfl⟩) (nz_preV (ci := 5) (q0 := 0) hK hP rfl rfl) rfl rfl hl.1 rfl (lv_room (Nat.le_of_ble_eq_true rfl)) dX5_set_1 ⟨Nat.zero_le _, Nat.zero_le _⟩) hS (fun _ h => h) (fun H locs hP _ _ hS => ?_)
  obtain ⟨wd2_1, hwd2, hP⟩ := hP
  refine nz_ifeqB (tgt := 21) hx hb dX5_set_4 (by decide) (fun c_4 => ?_) (fun c_4 => ?_)
  · refine lv_iconst (v := (-1)) hx hb dX5_set_21 (by decide +kernel) ?_
    have hz : (bb && b3) = false := by
      cases hbb9 : bb with
      | false => rfl
      | true =>
        cases hb39 : b3 with
        | false => rfl
        | true =>
          have h9 := hb3.mp hb39
          first | exact absurd (c_4.symm.trans hbb9) (by decide) | exact absurd c_10 h9.1 | (exact absurd ((pk_lLT (by decide) hw1).mpr c_18) h9.2)
    rw [hz] at hret
    exact hret 22 ls H locs dX5_set_22 ⟨_, hwd2.1, hP⟩ hS
  · refine lv_lload_n hx hb dX5_set_7 rfl (lv_at hl 1 rfl) ?_
    refine lv_lconst (v := lN 0) hx hb dX5_set_8 (by decide +kernel) ?_
    refine W.lcmp hx hb dX5_set_9 ?_
    refine nz_lRlt (tgt := 21) hx hb dX5_set_10 (by decide) (fun c_10 => ?_) (fun c_10 => ?_)
    · refine lv_iconst (v := (-1)) hx hb dX5_set_21 (by decide +kernel) ?_
      have hz : (bb && b3) = false := by
        cases hbb9 : bb with
        | false => rfl
        | true =>
          cases hb39 : b3 with
          | false => rfl
          | true =>
            have h9 := hb3.mp hb39
            first | exact absurd (c_4.symm.trans hbb9) (by decide) | exact absurd c_10 h9.1 | (exact absurd ((pk_lLT (by decide) hw1).mpr c_18) h9.2)
      rw [hz] at hret
      exact hret 22 ls H locs dX5_set_22 ⟨_, hwd2.1, hP⟩ hS
    · obtain ⟨w1, hw1, rfl⟩ := pk_lOf (show ¬ x < 0 from c_10)
      refine lv_lload_n hx hb dX5_set_13 rfl (lv_at hl 1 rfl) ?_
      refine lv_ldc2 (v := lN (1000000000000)) hx hb hown (hts (.constantLong RX5 74 (1000000000000)) (by decide +kernel)) dX5_set_14 ?_
      refine W.lcmp hx hb dX5_set_17 ?_
      refine nz_lle (a := w1) (b := 1000000000000) (tgt := 23) hx hb dX5_set_18 (by decide) (by omega) (by omega) (fun c_18 => ?_) (fun c_18 => ?_)
      · refine lv_aload_n hx hb dX5_set_23 rfl (lv_at hl 0 rfl) ?_
        refine va_get (D := D) (ci := 5) (v := .ref (a 3)) (C := RX5) (T := TX5) (N := 5) hx hb hts hinX5 hown hK hP 0 rfl rfl 2 (by decide) (hts (.fieldLink RX5 26 "TypoSuggester" "lexicon" "LTypoSuggester$Lexicon;") (by decide +kernel)) (fun _ h9 => h9) rfl dX5_set_24 ?_
        refine lv_aload_n hx hb dX5_set_27 rfl (lv_at hl 0 rfl) ?_
        refine va_get (D := D) (ci := 5) (v := .ref (a 2)) (C := RX5) (T := TX5) (N := 5) hx hb hts hinX5 hown hK hP 0 rfl rfl 1 (by decide) (hts (.fieldLink RX5 19 "TypoSuggester" "word" "LTypoSuggester$Word;") (by decide +kernel)) (fun _ h9 => h9) rfl dX5_set_28 ?_
        refine nz_callR (va_runV (As := [.ref (a 2)]) (rest := []) ⟨hx, hb, hml, hown, hts⟩ (mX0_placeOf l D a cs (tp.1, 0) wd2_1 lx ro rs r hI.1 hwd2.1 (plp_congr hr (hwd2.2 c_4))) (cwV 1 hts gX5_set_X0_placeOf rfl rfl rfl (by decide +kernel) ⟨Nat.le_of_ble_eq_true rfl, Nat.le_of_ble_eq_true rfl⟩) (nz_preV (ci := 0) (q0 := 3) hK hP rfl rfl) rfl rfl hl.1 rfl (lv_room (Nat.le_of_ble_eq_true rfl)) dX5_set_31 ⟨Nat.zero_le _, Nat.zero_le _⟩) ?_
        refine lv_istore_n (lv' := [(3, .int (nI (r))), (0, .ref (a 0)), (1, .long (lN (w1)))]) hx hb dX5_set_34 rfl hl (by decide) rfl (fun ls hl => ?_)
        refine lv_aload_n hx hb dX5_set_35 rfl (lv_at hl 1 rfl) ?_
        refine va_get (D := D) (ci := 5) (v := .ref (a 3)) (C := RX5) (T := TX5) (N := 5) hx hb hts hinX5 hown hK hP 0 rfl rfl 2 (by decide) (hts (.fieldLink RX5 26 "TypoSuggester" "lexicon" "LTypoSuggester$Lexicon;") (by decide +kernel)) (fun _ h9 => h9) rfl dX5_set_36 ?_
        refine lv_iload_n hx hb dX5_set_39 rfl (lv_at hl 0 rfl) ?_
        refine lv_aload_n hx hb dX5_set_40 rfl (lv_at hl 1 rfl) ?_
        refine va_get (D := D) (ci := 5) (v := .ref (a 2)) (C := RX5) (T := TX5) (N := 5) hx hb hts hinX5 hown hK hP 0 rfl rfl 1 (by decide) (hts (.fieldLink RX5 19 "TypoSuggester" "word" "LTypoSuggester$Word;") (by decide +kernel)) (fun _ h9 => h9) rfl dX5_set_41 ?_
        refine nz_callR (va_runV (As := [.int (nI (r)), .ref (a 2)]) (rest := []) ⟨hx, hb, hml, hown, hts⟩ (mX0_standsAt l D a cs (tp.1, 0) wd2_1 lx ro rs r b1 hI.1 hwd2.1 hr.1 (hb1.trans (stdX_congr2 (hwd2.2 c_4)))) (cwV 2 hts gX5_set_X0_standsAt rfl rfl rfl (by decide +kernel) ⟨Nat.le_of_ble_eq_true rfl, Nat.le_of_ble_eq_true rfl⟩) (nz_preV (ci := 0) (q0 := 3) hK hP rfl rfl) rfl rfl hl.1 rfl (lv_room (Nat.le_of_ble_eq_true rfl)) dX5_set_44 ⟨Nat.zero_le _, Nat.zero_le _⟩) ?_
        refine nz_ifeqB (tgt := 62) hx hb dX5_set_47 (by decide) (fun c_47 => ?_) (fun c_47 => ?_)
        · refine lv_aload_n hx hb dX5_set_62 rfl (lv_at hl 1 rfl) ?_
          refine va_get (D := D) (ci := 5) (v := .ref (a 3)) (C := RX5) (T := TX5) (N := 5) hx hb hts hinX5 hown hK hP 0 rfl rfl 2 (by decide) (hts (.fieldLink RX5 26 "TypoSuggester" "lexicon" "LTypoSuggester$Lexicon;") (by decide +kernel)) (fun _ h9 => h9) rfl dX5_set_63 ?_
          refine lv_iload_n hx hb dX5_set_66 rfl (lv_at hl 0 rfl) ?_
          refine lv_aload_n hx hb dX5_set_67 rfl (lv_at hl 1 rfl) ?_
          refine va_get (D := D) (ci := 5) (v := .ref (a 2)) (C := RX5) (T := TX5) (N := 5) hx hb hts hinX5 hown hK hP 0 rfl rfl 1 (by decide) (hts (.fieldLink RX5 19 "TypoSuggester" "word" "LTypoSuggester$Word;") (by decide +kernel)) (fun _ h9 => h9) rfl dX5_set_68 ?_
          refine lv_lload_n hx hb dX5_set_71 rfl (lv_at hl 2 rfl) ?_
          refine nz_callW (va_runV (As := [.int (nI (r)), .ref (a 2), .long (lN (w1))]) (rest := []) ⟨hx, hb, hml, hown, hts⟩ (mX0_insert l D a cs (tp.1, 0) wd2_1 lx ro rs r w1 b2 ha hI.1 hwd2.1 hr.1 (by omega) (by rw [(hwd2.2 c_4).1]; exact hb2)) (cwV 3 hts gX5_set_X0_insert rfl rfl rfl (by decide +kernel) ⟨Nat.le_of_ble_eq_true rfl, Nat.le_of_ble_eq_true rfl⟩) (nz_preV (ci := 0) (q0 := 3) hK hP rfl rfl) rfl rfl hl.1 rfl (lv_room (Nat.le_of_ble_eq_true rfl)) dX5_set_72 ⟨Nat.zero_le _, Nat.zero_le _⟩) hS (fun _ h => h) (fun H locs hP _ _ hS => ?_)
          have hP : va_P D vwCl (wX a cs (tp.1, 0) wd2_1 (bif b2 then lxIns lx wd2_1 r w1 else lx) ro rs) H := hP
          rw [lxIns_congr2 (hwd2.2 c_4)] at hP
          rw [lW_lN hw1] at hret
          refine nz_ifeqB (tgt := 82) hx hb dX5_set_75 (by decide) (fun c_75 => ?_) (fun c_75 => ?_)
          · refine lv_bipush (v := (-2)) hx hb dX5_set_82 (by decide +kernel) ?_
            have hb39 : b3 = true := hb3.mpr ⟨c_10, fun z => absurd ((pk_lLT (by decide) hw1).mp z) (by omega)⟩
            subst hb39
            subst c_4
            subst c_47
            subst c_75
            exact hret 84 ls H locs dX5_set_84 ⟨_, hwd2.1, hP⟩ hS
          · refine lv_iconst (v := nI 1) hx hb dX5_set_78 (by decide +kernel) ?_
            refine lv_goto (tgt := 84) hx hb dX5_set_79 (by decide) ?_
            have hb39 : b3 = true := hb3.mpr ⟨c_10, fun z => absurd ((pk_lLT (by decide) hw1).mp z) (by omega)⟩
            subst hb39
            subst c_4
            subst c_47
            subst c_75
            exact hret 84 ls H locs dX5_set_84 ⟨_, hwd2.1, hP⟩ hS
        · have hrc : r < lx.2.2.2 := (hb1.mp c_47).1
          have hlc := hI.1.1
          refine lv_aload_n hx hb dX5_set_50 rfl (lv_at hl 1 rfl) ?_
          refine va_get (D := D) (ci := 5) (v := .ref (a 3)) (C := RX5) (T := TX5) (N := 5) hx hb hts hinX5 hown hK hP 0 rfl rfl 2 (by decide) (hts (.fieldLink RX5 26 "TypoSuggester" "lexicon" "LTypoSuggester$Lexicon;") (by decide +kernel)) (fun _ h9 => h9) rfl dX5_set_51 ?_
          refine va_get (D := D) (ci := 0) (v := .ref (a 10)) (C := RX0) (T := TX0) (N := 4) hx hb hts hinX0 hown hK hP 3 rfl rfl 2 (by decide) (hts (.fieldLink RX5 84 "TypoSuggester$Lexicon" "weights" "[J") (by decide +kernel)) (fun _ h9 => h9) rfl dX5_set_54 ?_
          refine lv_iload_n hx hb dX5_set_57 rfl (lv_at hl 0 rfl) ?_
          refine lv_lload_n hx hb dX5_set_58 rfl (lv_at hl 2 rfl) ?_
          refine nz_last (f := lx.2.2.1) (k := r) (v := w1) (ws' := wX a cs (tp.1, 0) wd2_1 (lx.1, lx.2.1, va_up lx.2.2.1 r w1, lx.2.2.2) ro rs) hx hb hK hP (wX_D ha) hS 10 2 rfl rfl (by omega) (by decide) dX5_set_59 rfl (fun H locs hP hS => ?_)
          refine lv_iconst (v := nI 0) hx hb dX5_set_60 (by decide +kernel) ?_
          have hb39 : b3 = true := hb3.mpr ⟨c_10, fun z => absurd ((pk_lLT (by decide) hw1).mp z) (by omega)⟩
          subst hb39
          subst c_4
          subst c_47
          rw [lW_lN hw1] at hret
          exact hret 61 ls H locs dX5_set_61 ⟨_, hwd2.1, hP⟩ hS
      · refine lv_iconst (v := (-1)) hx hb dX5_set_21 (by decide +kernel) ?_
        have hz : (bb && b3) = false := by
          cases hbb9 : bb with
          | false => rfl
          | true =>
            cases hb39 : b3 with
            | false => rfl
            | true =>
              have h9 := hb3.mp hb39
              first | exact absurd (c_4.symm.trans hbb9) (by decide) | exact absurd c_10 h9.1 | (exact absurd ((pk_lLT (by decide) hw1).mpr c_18) h9.2)
        rw [hz] at hret
        exact hret 22 ls H locs dX5_set_22 ⟨_, hwd2.1, hP⟩ hS
abbrev rmX5_drop : Room := { frames := 5, cells := 0, slots := 0, locals := 115 }
set_option maxHeartbeats 4000000 in
set_option maxRecDepth 100000 in
theorem mX5_drop (l : Launch) (D : va_G) (a : Nat → Nat) (cs : Nat → ClassId) (tp : (Nat → Int32) × Nat) (wd : (Nat → Nat) × Nat) (lx : (Nat → Nat) × (Nat → Nat) × (Nat → Nat) × Nat) (ro : Nat → Nat) (rs : (Nat → Nat) × (Nat → Nat) × (Nat → Nat) × (Nat → Nat) × (Nat → Nat) × Nat) (bb : Bool) (r : Nat) (b1 : Bool) (ha : wInj a) (hI : LxI lx) (hT : tp.2 ≤ 400) (hW : WdB wd) (hbb : bb = true ↔ (goodT tp ∧ 0 < tp.2)) (hr : PLp lx (qF tp) tp.2 r) (hb1 : b1 = true ↔ stdX lx (qF tp) tp.2 r) : Met l yX5_drop wsX5_drop rmX5_drop (wdP D vwCl (wX a cs tp wd lx ro rs) (tyX cs) [.ref (a 0)]) (wrQ (some (.long (bif (bb && b1) then lN (lx.2.2.1 r) else (-1)))) (fun H => ∃ wd2, WdB wd2 ∧ va_P D vwCl (wX a cs (tp.1, 0) wd2 (bif (bb && b1) then lxDel lx r else lx) ro rs) H) (inX a)) 0 0 (inX a) := by
  refine nz_metWl (by decide) rfl (Nat.le_of_ble_eq_true rfl) ?_
  intro p e s m args below meth c Q hx hb hml hts hown hP hK hret ls hl
  have hl : lv_has ls 4 [(0, .ref (a 0))] := hl
  have hown : s.vm.findClass RX5 = some m.cls := hown
  have hinX5 : ∀ w ∈ u_ws RX5 TX5 5, w ∈ wsX5_drop := by decide +kernel
  have hinX0 : ∀ w ∈ u_ws RX0 TX0 4, w ∈ wsX5_drop := by decide +kernel
  have hS : va_S (inX a) s.heap s.heap [] := va_S.rf
  obtain ⟨H, hH⟩ : ∃ H, H = s.heap := ⟨_, rfl⟩
  obtain ⟨locs, hlocs⟩ : ∃ locs : List Loc, locs = [] := ⟨_, rfl⟩
  have hP : va_P D vwCl (wX a cs tp wd lx ro rs) H := hH ▸ hP
  have hS : va_S (inX a) s.heap H locs := by rw [hH, hlocs]; exact va_S.rf
  suffices hgo : W p l e rmX5_drop s m args below meth c H locs 0 0 Q (F0 m 0 ls []) by rw [hH, hlocs] at hgo; exact hgo
  clear hH hlocs
  refine lv_aload_n hx hb dX5_drop_0 rfl (lv_at hl 0 rfl) ?_
  refine nz_callW (va_runV (As := []) (rest := []) ⟨hx, hb, hml, hown, hts⟩ (mX5_takePlace l D a cs tp wd lx ro rs bb r b1 ha hI hT hW hbb hr hb1) (cwV 0 hts gX5_drop_X5_takePlace rfl rfl rfl (by decide +kernel) ⟨Nat.le_of_ble_eq_true rfl, Nat.le_of_ble_eq_true rfl⟩) (nz_preV (ci := 5) (q0 := 0) hK hP rfl rfl) rfl rfl hl.1 rfl (lv_room (Nat.le_of_ble_eq_true rfl)) dX5_drop_1 ⟨Nat.zero_le _, Nat.zero_le _⟩) hS (fun _ h => h) (fun H locs hP _ _ hS => ?_)
  obtain ⟨wd2_1, hwd2, hP⟩ := hP
  refine lv_istore_n (lv' := [(1, .int (bif (bb && b1) then nI r else (-1))), (0, .ref (a 0))]) hx hb dX5_drop_4 rfl hl (by decide) rfl (fun ls hl => ?_)
  refine lv_iload_n hx hb dX5_drop_5 rfl (lv_at hl 0 rfl) ?_
  refine lv_iconst (v := (-1)) hx hb dX5_drop_6 (by decide +kernel) ?_
  refine lv_icmp_ne (tgt := 14) hx hb dX5_drop_7 (by decide) (fun c_7 => ?_) (fun c_7 => ?_)
  · have hbt := pb_ne c_7
    have hrc : r < lx.2.2.2 := (hb1.mp (by cases b1 with | true => rfl | false => rw [Bool.and_false] at hbt; cases hbt)).1
    have hlc := hI.1.1
    have e_2 : (bif (bb && b1) then nI r else (-1)) = (nI (r)) := by rw [hbt]; rfl
    have hl : lv_has ls 4 [(1, .int (nI (r))), (0, .ref (a 0))] := by rw [← e_2]; exact hl
    refine lv_aload_n hx hb dX5_drop_14 rfl (lv_at hl 1 rfl) ?_
    refine va_get (D := D) (ci := 5) (v := .ref (a 3)) (C := RX5) (T := TX5) (N := 5) hx hb hts hinX5 hown hK hP 0 rfl rfl 2 (by decide) (hts (.fieldLink RX5 26 "TypoSuggester" "lexicon" "LTypoSuggester$Lexicon;") (by decide +kernel)) (fun _ h9 => h9) rfl dX5_drop_15 ?_
    refine va_get (D := D) (ci := 0) (v := .ref (a 10)) (C := RX0) (T := TX0) (N := 4) hx hb hts hinX0 hown hK hP 3 rfl rfl 2 (by decide) (hts (.fieldLink RX5 84 "TypoSuggester$Lexicon" "weights" "[J") (by decide +kernel)) (fun _ h9 => h9) rfl dX5_drop_18 ?_
    refine lv_iload_n hx hb dX5_drop_21 rfl (lv_at hl 0 rfl) ?_
    refine nz_lald (f := lx.2.2.1) (k := r) hx hb hK hP 10 2 rfl rfl (by omega) (by decide) dX5_drop_22 ?_
    refine lv_lstore_n (lv' := [(2, .long (lN (lx.2.2.1 r))), (1, .int (nI (r))), (0, .ref (a 0))]) hx hb dX5_drop_23 rfl hl (by decide) rfl (fun ls hl => ?_)
    refine lv_aload_n hx hb dX5_drop_24 rfl (lv_at hl 2 rfl) ?_
    refine va_get (D := D) (ci := 5) (v := .ref (a 3)) (C := RX5) (T := TX5) (N := 5) hx hb hts hinX5 hown hK hP 0 rfl rfl 2 (by decide) (hts (.fieldLink RX5 26 "TypoSuggester" "lexicon" "LTypoSuggester$Lexicon;") (by decide +kernel)) (fun _ h9 => h9) rfl dX5_drop_25 ?_
    refine lv_iload_n hx hb dX5_drop_28 rfl (lv_at hl 1 rfl) ?_
    refine nz_callW (va_runV (As := [.int (nI (r))]) (rest := []) ⟨hx, hb, hml, hown, hts⟩ (mX0_remove l D a cs (tp.1, 0) wd2_1 lx ro rs r ha hI.1 hrc) (cwV 1 hts gX5_drop_X0_remove rfl rfl rfl (by decide +kernel) ⟨Nat.le_of_ble_eq_true rfl, Nat.le_of_ble_eq_true rfl⟩) (nz_preV (ci := 0) (q0 := 3) hK hP rfl rfl) rfl rfl hl.1 rfl (lv_room (Nat.le_of_ble_eq_true rfl)) dX5_drop_29 ⟨Nat.zero_le _, Nat.zero_le _⟩) hS (fun _ h => h) (fun H locs hP _ _ hS => ?_)
    refine lv_lload_n hx hb dX5_drop_32 rfl (lv_at hl 0 rfl) ?_
    rw [hbt] at hret
    exact hret 33 ls H locs dX5_drop_33 ⟨_, hwd2, hP⟩ hS
  · have hbf := pb_eq (by have := hr.1; have := hI.1.1; omega) c_7
    refine lv_ldc2 (v := (-1)) hx hb hown (hts (.constantLong RX5 96 (-1)) (by decide +kernel)) dX5_drop_10 ?_
    rw [hbf] at hret
    exact hret 13 ls H locs dX5_drop_13 ⟨_, hwd2, hP⟩ hS
abbrev rmX5_weight : Room := { frames := 5, cells := 0, slots := 0, locals := 115 }
set_option maxHeartbeats 4000000 in
set_option maxRecDepth 100000 in
theorem mX5_weight (l : Launch) (D : va_G) (a : Nat → Nat) (cs : Nat → ClassId) (tp : (Nat → Int32) × Nat) (wd : (Nat → Nat) × Nat) (lx : (Nat → Nat) × (Nat → Nat) × (Nat → Nat) × Nat) (ro : Nat → Nat) (rs : (Nat → Nat) × (Nat → Nat) × (Nat → Nat) × (Nat → Nat) × (Nat → Nat) × Nat) (bb : Bool) (r : Nat) (b1 : Bool) (ha : wInj a) (hI : LxI lx) (hT : tp.2 ≤ 400) (hW : WdB wd) (hbb : bb = true ↔ (goodT tp ∧ 0 < tp.2)) (hr : PLp lx (qF tp) tp.2 r) (hb1 : b1 = true ↔ stdX lx (qF tp) tp.2 r) : Met l yX5_weight wsX5_weight rmX5_weight (wdP D vwCl (wX a cs tp wd lx ro rs) (tyX cs) [.ref (a 0)]) (wrQ (some (.long (bif (bb && b1) then lN (lx.2.2.1 r) else (-1)))) (fun H => ∃ wd2, WdB wd2 ∧ va_P D vwCl (wX a cs (tp.1, 0) wd2 lx ro rs) H) (inX a)) 0 0 (inX a) := by
  refine nz_metWl (by decide) rfl (Nat.le_of_ble_eq_true rfl) ?_
  intro p e s m args below meth c Q hx hb hml hts hown hP hK hret ls hl
  have hl : lv_has ls 2 [(0, .ref (a 0))] := hl
  have hown : s.vm.findClass RX5 = some m.cls := hown
  have hinX5 : ∀ w ∈ u_ws RX5 TX5 5, w ∈ wsX5_weight := by decide +kernel
  have hinX0 : ∀ w ∈ u_ws RX0 TX0 4, w ∈ wsX5_weight := by decide +kernel
  have hS : va_S (inX a) s.heap s.heap [] := va_S.rf
  obtain ⟨H, hH⟩ : ∃ H, H = s.heap := ⟨_, rfl⟩
  obtain ⟨locs, hlocs⟩ : ∃ locs : List Loc, locs = [] := ⟨_, rfl⟩
  have hP : va_P D vwCl (wX a cs tp wd lx ro rs) H := hH ▸ hP
  have hS : va_S (inX a) s.heap H locs := by rw [hH, hlocs]; exact va_S.rf
  suffices hgo : W p l e rmX5_weight s m args below meth c H locs 0 0 Q (F0 m 0 ls []) by rw [hH, hlocs] at hgo; exact hgo
  clear hH hlocs
  refine lv_aload_n hx hb dX5_weight_0 rfl (lv_at hl 0 rfl) ?_
  refine nz_callW (va_runV (As := []) (rest := []) ⟨hx, hb, hml, hown, hts⟩ (mX5_takePlace l D a cs tp wd lx ro rs bb r b1 ha hI hT hW hbb hr hb1) (cwV 0 hts gX5_weight_X5_takePlace rfl rfl rfl (by decide +kernel) ⟨Nat.le_of_ble_eq_true rfl, Nat.le_of_ble_eq_true rfl⟩) (nz_preV (ci := 5) (q0 := 0) hK hP rfl rfl) rfl rfl hl.1 rfl (lv_room (Nat.le_of_ble_eq_true rfl)) dX5_weight_1 ⟨Nat.zero_le _, Nat.zero_le _⟩) hS (fun _ h => h) (fun H locs hP _ _ hS => ?_)
  obtain ⟨wd2_1, hwd2, hP⟩ := hP
  refine lv_istore_n (lv' := [(1, .int (bif (bb && b1) then nI r else (-1))), (0, .ref (a 0))]) hx hb dX5_weight_4 rfl hl (by decide) rfl (fun ls hl => ?_)
  refine lv_iload_n hx hb dX5_weight_5 rfl (lv_at hl 0 rfl) ?_
  refine lv_iconst (v := (-1)) hx hb dX5_weight_6 (by decide +kernel) ?_
  refine lv_icmp_ne (tgt := 16) hx hb dX5_weight_7 (by decide) (fun c_7 => ?_) (fun c_7 => ?_)
  · have hbt := pb_ne c_7
    have hrc : r < lx.2.2.2 := (hb1.mp (by cases b1 with | true => rfl | false => rw [Bool.and_false] at hbt; cases hbt)).1
    have hlc := hI.1.1
    have e_2 : (bif (bb && b1) then nI r else (-1)) = (nI (r)) := by rw [hbt]; rfl
    have hl : lv_has ls 2 [(1, .int (nI (r))), (0, .ref (a 0))] := by rw [← e_2]; exact hl
    refine lv_aload_n hx hb dX5_weight_16 rfl (lv_at hl 1 rfl) ?_
    refine va_get (D := D) (ci := 5) (v := .ref (a 3)) (C := RX5) (T := TX5) (N := 5) hx hb hts hinX5 hown hK hP 0 rfl rfl 2 (by decide) (hts (.fieldLink RX5 26 "TypoSuggester" "lexicon" "LTypoSuggester$Lexicon;") (by decide +kernel)) (fun _ h9 => h9) rfl dX5_weight_17 ?_
    refine va_get (D := D) (ci := 0) (v := .ref (a 10)) (C := RX0) (T := TX0) (N := 4) hx hb hts hinX0 hown hK hP 3 rfl rfl 2 (by decide) (hts (.fieldLink RX5 84 "TypoSuggester$Lexicon" "weights" "[J") (by decide +kernel)) (fun _ h9 => h9) rfl dX5_weight_20 ?_
    refine lv_iload_n hx hb dX5_weight_23 rfl (lv_at hl 0 rfl) ?_
    refine nz_lald (f := lx.2.2.1) (k := r) hx hb hK hP 10 2 rfl rfl (by omega) (by decide) dX5_weight_24 ?_
    rw [hbt] at hret
    exact hret 25 ls H locs dX5_weight_25 ⟨_, hwd2, hP⟩ hS
  · have hbf := pb_eq (by have := hr.1; have := hI.1.1; omega) c_7
    refine lv_ldc2 (v := (-1)) hx hb hown (hts (.constantLong RX5 96 (-1)) (by decide +kernel)) dX5_weight_10 ?_
    refine lv_goto (tgt := 25) hx hb dX5_weight_13 (by decide) ?_
    rw [hbf] at hret
    exact hret 25 ls H locs dX5_weight_25 ⟨_, hwd2, hP⟩ hS
abbrev rmX5_rank : Room := { frames := 5, cells := 0, slots := 0, locals := 115 }
set_option maxHeartbeats 4000000 in
set_option maxRecDepth 100000 in
theorem mX5_rank (l : Launch) (D : va_G) (a : Nat → Nat) (cs : Nat → ClassId) (tp : (Nat → Int32) × Nat) (wd : (Nat → Nat) × Nat) (lx : (Nat → Nat) × (Nat → Nat) × (Nat → Nat) × Nat) (ro : Nat → Nat) (rs : (Nat → Nat) × (Nat → Nat) × (Nat → Nat) × (Nat → Nat) × (Nat → Nat) × Nat) (bb : Bool) (r : Nat) (b1 : Bool) (ha : wInj a) (hI : LxI lx) (hT : tp.2 ≤ 400) (hW : WdB wd) (hbb : bb = true ↔ (goodT tp ∧ 0 < tp.2)) (hr : PLp lx (qF tp) tp.2 r) (hb1 : b1 = true ↔ stdX lx (qF tp) tp.2 r) : Met l yX5_rank wsX5_rank rmX5_rank (wdP D vwCl (wX a cs tp wd lx ro rs) (tyX cs) [.ref (a 0)]) (wrQ (some (.int (bif (bb && b1) then nI (cntF (fun j => decide (lx.2.2.1 r < lx.2.2.1 j ∨ (lx.2.2.1 j = lx.2.2.1 r ∧ j < r))) lx.2.2.2) else (-1)))) (fun H => ∃ wd2, WdB wd2 ∧ va_P D vwCl (wX a cs (tp.1, 0) wd2 lx ro rs) H) (inX a)) 0 0 (inX a) := by
  refine nz_metWi (by decide) rfl (Nat.le_of_ble_eq_true rfl) rfl ?_
  intro p e s m args below meth c Q hx hb hml hts hown hP hK hret ls hl
  have hl : lv_has ls 2 [(0, .ref (a 0))] := hl
  have hown : s.vm.findClass RX5 = some m.cls := hown
  have hinX5 : ∀ w ∈ u_ws RX5 TX5 5, w ∈ wsX5_rank := by decide +kernel
  have hS : va_S (inX a) s.heap s.heap [] := va_S.rf
  obtain ⟨H, hH⟩ : ∃ H, H = s.heap := ⟨_, rfl⟩
  obtain ⟨locs, hlocs⟩ : ∃ locs : List Loc, locs = [] := ⟨_, rfl⟩
  have hP : va_P D vwCl (wX a cs tp wd lx ro rs) H := hH ▸ hP
  have hS : va_S (inX a) s.heap H locs := by rw [hH, hlocs]; exact va_S.rf
  suffices hgo : W p l e rmX5_rank s m args below meth c H locs 0 0 Q (F0 m 0 ls []) by rw [hH, hlocs] at hgo; exact hgo
  clear hH hlocs
  refine lv_aload_n hx hb dX5_rank_0 rfl (lv_at hl 0 rfl) ?_
  refine nz_callW (va_runV (As := []) (rest := []) ⟨hx, hb, hml, hown, hts⟩ (mX5_takePlace l D a cs tp wd lx ro rs bb r b1 ha hI hT hW hbb hr hb1) (cwV 0 hts gX5_rank_X5_takePlace rfl rfl rfl (by decide +kernel) ⟨Nat.le_of_ble_eq_true rfl, Nat.le_of_ble_eq_true rfl⟩) (nz_preV (ci := 5) (q0 := 0) hK hP rfl rfl) rfl rfl hl.1 rfl (lv_room (Nat.le_of_ble_eq_true rfl)) dX5_rank_1 ⟨Nat.zero_le _, Nat.zero_le _⟩) hS (fun _ h => h) (fun H locs hP _ _ hS => ?_)
  obtain ⟨wd2_1, hwd2, hP⟩ := hP
  refine lv_istore_n (lv' := [(1, .int (bif (bb && b1) then nI r else (-1))), (0, .ref (a 0))]) hx hb dX5_rank_4 rfl hl (by decide) rfl (fun ls hl => ?_)
  refine lv_iload_n hx hb dX5_rank_5 rfl (lv_at hl 0 rfl) ?_
  refine lv_iconst (v := (-1)) hx hb dX5_rank_6 (by decide +kernel) ?_
  refine lv_icmp_ne (tgt := 14) hx hb dX5_rank_7 (by decide) (fun c_7 => ?_) (fun c_7 => ?_)
  · have hbt := pb_ne c_7
    have hrc : r < lx.2.2.2 := (hb1.mp (by cases b1 with | true => rfl | false => rw [Bool.and_false] at hbt; cases hbt)).1
    have hlc := hI.1.1
    have e_2 : (bif (bb && b1) then nI r else (-1)) = (nI (r)) := by rw [hbt]; rfl
    have hl : lv_has ls 2 [(1, .int (nI (r))), (0, .ref (a 0))] := by rw [← e_2]; exact hl
    refine lv_aload_n hx hb dX5_rank_14 rfl (lv_at hl 1 rfl) ?_
    refine va_get (D := D) (ci := 5) (v := .ref (a 3)) (C := RX5) (T := TX5) (N := 5) hx hb hts hinX5 hown hK hP 0 rfl rfl 2 (by decide) (hts (.fieldLink RX5 26 "TypoSuggester" "lexicon" "LTypoSuggester$Lexicon;") (by decide +kernel)) (fun _ h9 => h9) rfl dX5_rank_15 ?_
    refine lv_iload_n hx hb dX5_rank_18 rfl (lv_at hl 0 rfl) ?_
    refine nz_callR (va_runV (As := [.int (nI (r))]) (rest := []) ⟨hx, hb, hml, hown, hts⟩ (mX0_rankOf l D a cs (tp.1, 0) wd2_1 lx ro rs r hI.1 hrc) (cwV 1 hts gX5_rank_X0_rankOf rfl rfl rfl (by decide +kernel) ⟨Nat.le_of_ble_eq_true rfl, Nat.le_of_ble_eq_true rfl⟩) (nz_preV (ci := 0) (q0 := 3) hK hP rfl rfl) rfl rfl hl.1 rfl (lv_room (Nat.le_of_ble_eq_true rfl)) dX5_rank_19 ⟨Nat.zero_le _, Nat.zero_le _⟩) ?_
    rw [hbt] at hret
    exact hret 22 ls H locs dX5_rank_22 ⟨_, hwd2, hP⟩ hS
  · have hbf := pb_eq (by have := hr.1; have := hI.1.1; omega) c_7
    refine lv_iconst (v := (-1)) hx hb dX5_rank_10 (by decide +kernel) ?_
    refine lv_goto (tgt := 22) hx hb dX5_rank_11 (by decide) ?_
    rw [hbf] at hret
    exact hret 22 ls H locs dX5_rank_22 ⟨_, hwd2, hP⟩ hS
abbrev rmX5_near : Room := { frames := 3, cells := 0, slots := 0, locals := 77 }
set_option maxHeartbeats 4000000 in
set_option maxRecDepth 100000 in
theorem mX5_near (l : Launch) (D : va_G) (a : Nat → Nat) (cs : Nat → ClassId) (tp : (Nat → Int32) × Nat) (wd : (Nat → Nat) × Nat) (lx : (Nat → Nat) × (Nat → Nat) × (Nat → Nat) × Nat) (ro : Nat → Nat) (rs : (Nat → Nat) × (Nat → Nat) × (Nat → Nat) × (Nat → Nat) × (Nat → Nat) × Nat) (x : Int32) (bb : Bool) (b3 : Bool) (ha : wInj a) (hI : LxI lx) (hT : tp.2 ≤ 400) (hW : WdB wd) (hbb : bb = true ↔ goodT tp) (hb3 : b3 = true ↔ dOk x) : Met l yX5_near wsX5_near rmX5_near (wdP D vwCl (wX a cs tp wd lx ro rs) (tyX cs) [.ref (a 0), .int (x)]) (wrQ (some (.int (bif (bb && b3) then nI (cntF (fun i => decide (nrF (qF tp) tp.2 (TX lx i) (ZX lx i) ≤ x.toNatClampNeg)) lx.2.2.2) else (-1)))) (fun H => ∃ wd2 ro2, WdB wd2 ∧ va_P D vwCl (wX a cs (tp.1, 0) wd2 lx ro2 rs) H) (inX a)) 0 0 (inX a) := by
  refine nz_metWi (by decide) rfl (Nat.le_of_ble_eq_true rfl) rfl ?_
  intro p e s m args below meth c Q hx hb hml hts hown hP hK hret ls hl
  have hl : lv_has ls 4 [(0, .ref (a 0)), (1, .int (x))] := hl
  have hown : s.vm.findClass RX5 = some m.cls := hown
  have hinX5 : ∀ w ∈ u_ws RX5 TX5 5, w ∈ wsX5_near := by decide +kernel
  have hinX0 : ∀ w ∈ u_ws RX0 TX0 4, w ∈ wsX5_near := by decide +kernel
  have hS : va_S (inX a) s.heap s.heap [] := va_S.rf
  obtain ⟨H, hH⟩ : ∃ H, H = s.heap := ⟨_, rfl⟩
  obtain ⟨locs, hlocs⟩ : ∃ locs : List Loc, locs = [] := ⟨_, rfl⟩
  have hP : va_P D vwCl (wX a cs tp wd lx ro rs) H := hH ▸ hP
  have hS : va_S (inX a) s.heap H locs := by rw [hH, hlocs]; exact va_S.rf
  suffices hgo : W p l e rmX5_near s m args below meth c H locs 0 0 Q (F0 m 0 ls []) by rw [hH, hlocs] at hgo; exact hgo
  clear hH hlocs
  refine lv_aload_n hx hb dX5_near_0 rfl (lv_at hl 0 rfl) ?_
  refine nz_callW (va_runV (As := []) (rest := []) ⟨hx, hb, hml, hown, hts⟩ (mX5_takeLetters l D a cs tp wd lx ro rs bb ha hT hW hbb) (cwV 0 hts gX5_near_X5_takeLetters rfl rfl rfl (by decide +kernel) ⟨Nat.le_of_ble_eq_true rfl, Nat.le_of_ble_eq_true rfl⟩) (nz_preV (ci := 5) (q0 := 0) hK hP rfl rfl) rfl rfl hl.1 rfl (lv_room (Nat.le_of_ble_eq_true rfl)) dX5_near_1 ⟨Nat.zero_le _, Nat.zero_le _⟩) hS (fun _ h => h) (fun H locs hP _ _ hS => ?_)
  obtain ⟨wd2_1, hwd2, hP⟩ := hP
  refine nz_ifeqB (tgt := 16) hx hb dX5_near_4 (by decide) (fun c_4 => ?_) (fun c_4 => ?_)
  · refine lv_iconst (v := (-1)) hx hb dX5_near_16 (by decide +kernel) ?_
    have hz : (bb && b3) = false := by
      cases hbb9 : bb with
      | false => rfl
      | true =>
        cases hb39 : b3 with
        | false => rfl
        | true =>
          have h9 := hb3.mp hb39
          first | exact absurd (c_4.symm.trans hbb9) (by decide) | exact absurd c_8 h9.1 | exact absurd h9.2 (by rw [nI_clamp hd1]; omega)
    rw [hz] at hret
    exact hret 17 ls H locs dX5_near_17 ⟨_, _, hwd2.1, hP⟩ hS
  · refine lv_iload_n hx hb dX5_near_7 rfl (lv_at hl 1 rfl) ?_
    refine lv_if_lt (tgt := 16) hx hb dX5_near_8 (by decide) (fun c_8 => ?_) (fun c_8 => ?_)
    · refine lv_iconst (v := (-1)) hx hb dX5_near_16 (by decide +kernel) ?_
      have hz : (bb && b3) = false := by
        cases hbb9 : bb with
        | false => rfl
        | true =>
          cases hb39 : b3 with
          | false => rfl
          | true =>
            have h9 := hb3.mp hb39
            first | exact absurd (c_4.symm.trans hbb9) (by decide) | exact absurd c_8 h9.1 | exact absurd h9.2 (by rw [nI_clamp hd1]; omega)
      rw [hz] at hret
      exact hret 17 ls H locs dX5_near_17 ⟨_, _, hwd2.1, hP⟩ hS
    · obtain ⟨d1, hd1, rfl⟩ := nI_of c_8
      refine lv_iload_n hx hb dX5_near_11 rfl (lv_at hl 1 rfl) ?_
      refine lv_iconst (v := nI 2) hx hb dX5_near_12 (by decide +kernel) ?_
      refine nz_cle (a := d1) (b := 2) (tgt := 18) hx hb dX5_near_13 (by decide) (by omega) (by omega) (fun c_13 => ?_) (fun c_13 => ?_)
      · refine lv_iconst (v := nI 0) hx hb dX5_near_18 (by decide +kernel) ?_
        refine lv_istore_n (lv' := [(2, .int (nI (0))), (0, .ref (a 0)), (1, .int (nI (d1)))]) hx hb dX5_near_19 rfl hl (by decide) rfl (fun ls hl => ?_)
        refine lv_iconst (v := nI 0) hx hb dX5_near_20 (by decide +kernel) ?_
        refine lv_istore_n (lv' := [(3, .int (nI (0))), (2, .int (nI (0))), (0, .ref (a 0)), (1, .int (nI (d1)))]) hx hb dX5_near_21 rfl hl (by decide) rfl (fun ls hl => ?_)
        have loop : ∀ (fuel : Nat) (k : Nat) (ro2 : Nat → Nat), (k ≤ lx.2.2.2) → lx.2.2.2 - k < fuel → ∀ (H : Heap) (locs : List Loc), va_P D vwCl (wX a cs (tp.1, 0) wd2_1 lx ro2 rs) H → va_S (inX a) s.heap H locs → ∀ ls : Array Slot, lv_has ls 4 [(0, .ref (a 0)), (1, .int (nI (d1))), (2, .int (nI (cntF (fun i => decide (nrF wd2_1.1 wd2_1.2 (TX lx i) (ZX lx i) ≤ d1)) k))), (3, .int (nI (k)))] → W p l e rmX5_near s m args below meth c H locs 0 0 Q (F0 m 22 ls []) := by
          intro fuel
          induction fuel with
          | zero => intro k ro2 hk hf; exact absurd hf (Nat.not_lt_zero _)
          | succ fuel ih =>
            intro k ro2 hk hf H locs hP hS ls hl
            have hc9 := cntF_le (fun i => decide (nrF wd2_1.1 wd2_1.2 (TX lx i) (ZX lx i) ≤ d1)) k
            have hlc := hI.1.1
            refine lv_iload_n hx hb dX5_near_22 rfl (lv_at hl 3 rfl) ?_
            refine lv_aload_n hx hb dX5_near_23 rfl (lv_at hl 0 rfl) ?_
            refine va_get (D := D) (ci := 5) (v := .ref (a 3)) (C := RX5) (T := TX5) (N := 5) hx hb hts hinX5 hown hK hP 0 rfl rfl 2 (by decide) (hts (.fieldLink RX5 26 "TypoSuggester" "lexicon" "LTypoSuggester$Lexicon;") (by decide +kernel)) (fun _ h9 => h9) rfl dX5_near_24 ?_
            refine va_get (D := D) (ci := 0) (v := .int (nI (lx.2.2.2))) (C := RX0) (T := TX0) (N := 4) hx hb hts hinX0 hown hK hP 3 rfl rfl 3 (by decide) (hts (.fieldLink RX5 107 "TypoSuggester$Lexicon" "count" "I") (by decide +kernel)) (fun _ h9 => h9) rfl dX5_near_27 ?_
            refine nz_cge (a := k) (b := lx.2.2.2) (tgt := 63) hx hb dX5_near_30 (by decide) (by omega) (by omega) (fun c_30 => ?_) (fun c_30 => ?_)
            · refine lv_iload_n hx hb dX5_near_63 rfl (lv_at hl 2 rfl) ?_
              have hb39 : b3 = true := hb3.mpr ⟨nI_pos hd1, by rw [nI_clamp hd1]; exact c_13⟩
              subst hb39
              subst c_4
              have hcn : cntF (fun i => decide (nrF wd2_1.1 wd2_1.2 (TX lx i) (ZX lx i) ≤ d1)) k = cntF (fun i => decide (nrF (qF tp) tp.2 (TX lx i) (ZX lx i) ≤ (nI d1).toNatClampNeg)) lx.2.2.2 := by
                rw [show k = lx.2.2.2 by omega, nI_clamp hd1]
                refine cntF_congr (fun i hi => ?_)
                rw [(hwd2.2 rfl).1, nrF_congr (hwd2.2 rfl).2 (fun _ _ => rfl)]
              rw [hcn]
              exact hret 64 ls H locs dX5_near_64 ⟨_, _, hwd2.1, hP⟩ hS
            · refine lv_aload_n hx hb dX5_near_33 rfl (lv_at hl 0 rfl) ?_
              refine va_get (D := D) (ci := 5) (v := .ref (a 4)) (C := RX5) (T := TX5) (N := 5) hx hb hts hinX5 hown hK hP 0 rfl rfl 3 (by decide) (hts (.fieldLink RX5 33 "TypoSuggester" "measure" "LTypoSuggester$Measure;") (by decide +kernel)) (fun _ h9 => h9) rfl dX5_near_34 ?_
              refine lv_aload_n hx hb dX5_near_37 rfl (lv_at hl 0 rfl) ?_
              refine va_get (D := D) (ci := 5) (v := .ref (a 2)) (C := RX5) (T := TX5) (N := 5) hx hb hts hinX5 hown hK hP 0 rfl rfl 1 (by decide) (hts (.fieldLink RX5 19 "TypoSuggester" "word" "LTypoSuggester$Word;") (by decide +kernel)) (fun _ h9 => h9) rfl dX5_near_38 ?_
              refine lv_aload_n hx hb dX5_near_41 rfl (lv_at hl 0 rfl) ?_
              refine va_get (D := D) (ci := 5) (v := .ref (a 3)) (C := RX5) (T := TX5) (N := 5) hx hb hts hinX5 hown hK hP 0 rfl rfl 2 (by decide) (hts (.fieldLink RX5 26 "TypoSuggester" "lexicon" "LTypoSuggester$Lexicon;") (by decide +kernel)) (fun _ h9 => h9) rfl dX5_near_42 ?_
              refine lv_iload_n hx hb dX5_near_45 rfl (lv_at hl 3 rfl) ?_
              refine lv_iload_n hx hb dX5_near_46 rfl (lv_at hl 1 rfl) ?_
              refine nz_callW (va_runV (As := [.ref (a 2), .ref (a 3), .int (nI (k)), .int (nI (d1))]) (rest := []) ⟨hx, hb, hml, hown, hts⟩ (mX1_nearness l D a cs (tp.1, 0) wd2_1 lx ro2 rs k d1 ha hI.1 hwd2.1 (by omega) (by omega) (by have := (hI.2.2.1 k (by omega)).2; omega)) (cwV 4 hts gX5_near_X1_nearness rfl rfl rfl (by decide +kernel) ⟨Nat.le_of_ble_eq_true rfl, Nat.le_of_ble_eq_true rfl⟩) (nz_preV (ci := 1) (q0 := 4) hK hP rfl rfl) rfl rfl hl.1 rfl (lv_room (Nat.le_of_ble_eq_true rfl)) dX5_near_47 ⟨Nat.zero_le _, Nat.zero_le _⟩) hS (fun _ h => h) (fun H locs hP _ _ hS => ?_)
              obtain ⟨ro2_2, hP⟩ := hP
              refine lv_iload_n hx hb dX5_near_50 rfl (lv_at hl 1 rfl) ?_
              refine nz_cgt (a := min (d1 + 1) (nrF wd2_1.1 wd2_1.2 (TX lx k) (ZX lx k))) (b := d1) (tgt := 57) hx hb dX5_near_51 (by decide) (by omega) (by omega) (fun c_51 => ?_) (fun c_51 => ?_)
              · have hstep : cntF (fun i => decide (nrF wd2_1.1 wd2_1.2 (TX lx i) (ZX lx i) ≤ d1)) (k + 1) = cntF (fun i => decide (nrF wd2_1.1 wd2_1.2 (TX lx i) (ZX lx i) ≤ d1)) k := cntF_f (by rw [decide_eq_false_iff_not]; omega)
                have e_3 : (nI (cntF (fun i => decide (nrF wd2_1.1 wd2_1.2 (TX lx i) (ZX lx i) ≤ d1)) k)) = (nI (cntF (fun i => decide (nrF wd2_1.1 wd2_1.2 (TX lx i) (ZX lx i) ≤ d1)) (k + 1))) := by rw [hstep]
                have hl : lv_has ls 4 [(0, .ref (a 0)), (1, .int (nI (d1))), (2, .int (nI (cntF (fun i => decide (nrF wd2_1.1 wd2_1.2 (TX lx i) (ZX lx i) ≤ d1)) (k + 1)))), (3, .int (nI (k)))] := by rw [← e_3]; exact hl
                refine lv_iinc (v := nI (k + 1)) (lv' := [(3, .int (nI (k + 1))), (0, .ref (a 0)), (1, .int (nI (d1))), (2, .int (nI (cntF (fun i => decide (nrF wd2_1.1 wd2_1.2 (TX lx i) (ZX lx i) ≤ d1)) (k + 1))))]) hx hb dX5_near_57 hl (k := 3) rfl (nz_inc1 _) (by decide) rfl (fun ls hl => ?_)
                refine lv_goto (tgt := 22) hx hb dX5_near_60 (by decide) ?_
                exact ih (k + 1) ro2_2 (by omega) (by omega) H locs hP hS ls (lv_sub hl [1, 2, 3, 0] rfl)
              · refine lv_iinc (v := nI (cntF (fun i => decide (nrF wd2_1.1 wd2_1.2 (TX lx i) (ZX lx i) ≤ d1)) k + 1)) (lv' := [(2, .int (nI (cntF (fun i => decide (nrF wd2_1.1 wd2_1.2 (TX lx i) (ZX lx i) ≤ d1)) k + 1))), (0, .ref (a 0)), (1, .int (nI (d1))), (3, .int (nI (k)))]) hx hb dX5_near_54 hl (k := 2) rfl (nz_inc1 _) (by decide) rfl (fun ls hl => ?_)
                have hstep : cntF (fun i => decide (nrF wd2_1.1 wd2_1.2 (TX lx i) (ZX lx i) ≤ d1)) (k + 1) = cntF (fun i => decide (nrF wd2_1.1 wd2_1.2 (TX lx i) (ZX lx i) ≤ d1)) k + 1 := cntF_t (by rw [decide_eq_true_iff]; omega)
                have e_4 : (nI (cntF (fun i => decide (nrF wd2_1.1 wd2_1.2 (TX lx i) (ZX lx i) ≤ d1)) k + 1)) = (nI (cntF (fun i => decide (nrF wd2_1.1 wd2_1.2 (TX lx i) (ZX lx i) ≤ d1)) (k + 1))) := by rw [hstep]
                have hl : lv_has ls 4 [(2, .int (nI (cntF (fun i => decide (nrF wd2_1.1 wd2_1.2 (TX lx i) (ZX lx i) ≤ d1)) (k + 1)))), (0, .ref (a 0)), (1, .int (nI (d1))), (3, .int (nI (k)))] := by rw [← e_4]; exact hl
                refine lv_iinc (v := nI (k + 1)) (lv' := [(3, .int (nI (k + 1))), (2, .int (nI (cntF (fun i => decide (nrF wd2_1.1 wd2_1.2 (TX lx i) (ZX lx i) ≤ d1)) (k + 1)))), (0, .ref (a 0)), (1, .int (nI (d1)))]) hx hb dX5_near_57 hl (k := 3) rfl (nz_inc1 _) (by decide) rfl (fun ls hl => ?_)
                refine lv_goto (tgt := 22) hx hb dX5_near_60 (by decide) ?_
                exact ih (k + 1) ro2_2 (by omega) (by omega) H locs hP hS ls (lv_sub hl [2, 3, 1, 0] rfl)
        exact loop (lx.2.2.2 - 0 + 1) 0 ro (Nat.zero_le _) (Nat.lt_succ_self _) H locs hP hS ls (lv_sub hl [2, 3, 1, 0] rfl)
      · refine lv_iconst (v := (-1)) hx hb dX5_near_16 (by decide +kernel) ?_
        have hz : (bb && b3) = false := by
          cases hbb9 : bb with
          | false => rfl
          | true =>
            cases hb39 : b3 with
            | false => rfl
            | true =>
              have h9 := hb3.mp hb39
              first | exact absurd (c_4.symm.trans hbb9) (by decide) | exact absurd c_8 h9.1 | exact absurd h9.2 (by rw [nI_clamp hd1]; omega)
        rw [hz] at hret
        exact hret 17 ls H locs dX5_near_17 ⟨_, _, hwd2.1, hP⟩ hS
abbrev rmX5_best : Room := { frames := 4, cells := 0, slots := 0, locals := 94 }
set_option maxHeartbeats 4000000 in
set_option maxRecDepth 100000 in
theorem mX5_best (l : Launch) (D : va_G) (a : Nat → Nat) (cs : Nat → ClassId) (tp : (Nat → Int32) × Nat) (wd : (Nat → Nat) × Nat) (lx : (Nat → Nat) × (Nat → Nat) × (Nat → Nat) × Nat) (ro : Nat → Nat) (rs : (Nat → Nat) × (Nat → Nat) × (Nat → Nat) × (Nat → Nat) × (Nat → Nat) × Nat) (bb : Bool) (ha : wInj a) (hI : LxI lx) (hT : tp.2 ≤ 400) (hW : WdB wd) (hbb : bb = true ↔ goodT tp) : Met l yX5_best wsX5_best rmX5_best (wdP D vwCl (wX a cs tp wd lx ro rs) (tyX cs) [.ref (a 0)]) (wrQ (some (.long (bif bb then lN (mx1 (fun i => dB (begF (qF tp) tp.2 (TX lx i) (ZX lx i))) lx.2.2.1 lx.2.2.2) - 1 else (-1)))) (fun H => ∃ wd2, WdB wd2 ∧ va_P D vwCl (wX a cs (tp.1, 0) wd2 lx ro rs) H) (inX a)) 0 0 (inX a) := by
  refine nz_metWl (by decide) rfl (Nat.le_of_ble_eq_true rfl) ?_
  intro p e s m args below meth c Q hx hb hml hts hown hP hK hret ls hl
  have hl : lv_has ls 4 [(0, .ref (a 0))] := hl
  have hown : s.vm.findClass RX5 = some m.cls := hown
  have hinX5 : ∀ w ∈ u_ws RX5 TX5 5, w ∈ wsX5_best := by decide +kernel
  have hinX0 : ∀ w ∈ u_ws RX0 TX0 4, w ∈ wsX5_best := by decide +kernel
  have hS : va_S (inX a) s.heap s.heap [] := va_S.rf
  obtain ⟨H, hH⟩ : ∃ H, H = s.heap := ⟨_, rfl⟩
  obtain ⟨locs, hlocs⟩ : ∃ locs : List Loc, locs = [] := ⟨_, rfl⟩
  have hP : va_P D vwCl (wX a cs tp wd lx ro rs) H := hH ▸ hP
  have hS : va_S (inX a) s.heap H locs := by rw [hH, hlocs]; exact va_S.rf
  suffices hgo : W p l e rmX5_best s m args below meth c H locs 0 0 Q (F0 m 0 ls []) by rw [hH, hlocs] at hgo; exact hgo
  clear hH hlocs
  refine lv_aload_n hx hb dX5_best_0 rfl (lv_at hl 0 rfl) ?_
  refine nz_callW (va_runV (As := []) (rest := []) ⟨hx, hb, hml, hown, hts⟩ (mX5_takeLetters l D a cs tp wd lx ro rs bb ha hT hW hbb) (cwV 0 hts gX5_best_X5_takeLetters rfl rfl rfl (by decide +kernel) ⟨Nat.le_of_ble_eq_true rfl, Nat.le_of_ble_eq_true rfl⟩) (nz_preV (ci := 5) (q0 := 0) hK hP rfl rfl) rfl rfl hl.1 rfl (lv_room (Nat.le_of_ble_eq_true rfl)) dX5_best_1 ⟨Nat.zero_le _, Nat.zero_le _⟩) hS (fun _ h => h) (fun H locs hP _ _ hS => ?_)
  obtain ⟨wd2_1, hwd2, hP⟩ := hP
  refine nz_ifneB (tgt := 11) hx hb dX5_best_4 (by decide) (fun c_4 => ?_) (fun c_4 => ?_)
  · refine lv_ldc2 (v := (-1)) hx hb hown (hts (.constantLong RX5 96 (-1)) (by decide +kernel)) dX5_best_11 ?_
    refine lv_lstore_n (lv' := [(1, .long ((-1))), (0, .ref (a 0))]) hx hb dX5_best_14 rfl hl (by decide) rfl (fun ls hl => ?_)
    refine lv_aload_n hx hb dX5_best_15 rfl (lv_at hl 1 rfl) ?_
    refine va_get (D := D) (ci := 5) (v := .ref (a 3)) (C := RX5) (T := TX5) (N := 5) hx hb hts hinX5 hown hK hP 0 rfl rfl 2 (by decide) (hts (.fieldLink RX5 26 "TypoSuggester" "lexicon" "LTypoSuggester$Lexicon;") (by decide +kernel)) (fun _ h9 => h9) rfl dX5_best_16 ?_
    refine lv_aload_n hx hb dX5_best_19 rfl (lv_at hl 1 rfl) ?_
    refine va_get (D := D) (ci := 5) (v := .ref (a 2)) (C := RX5) (T := TX5) (N := 5) hx hb hts hinX5 hown hK hP 0 rfl rfl 1 (by decide) (hts (.fieldLink RX5 19 "TypoSuggester" "word" "LTypoSuggester$Word;") (by decide +kernel)) (fun _ h9 => h9) rfl dX5_best_20 ?_
    obtain ⟨r, hrw⟩ := pl_ex hI wd2_1.1 wd2_1.2
    refine nz_callR (va_runV (As := [.ref (a 2)]) (rest := []) ⟨hx, hb, hml, hown, hts⟩ (mX0_placeOf l D a cs (tp.1, 0) wd2_1 lx ro rs r hI.1 hwd2.1 hrw) (cwV 1 hts gX5_best_X0_placeOf rfl rfl rfl (by decide +kernel) ⟨Nat.le_of_ble_eq_true rfl, Nat.le_of_ble_eq_true rfl⟩) (nz_preV (ci := 0) (q0 := 3) hK hP rfl rfl) rfl rfl hl.1 rfl (lv_room (Nat.le_of_ble_eq_true rfl)) dX5_best_23 ⟨Nat.zero_le _, Nat.zero_le _⟩) ?_
    refine lv_istore_n (lv' := [(3, .int (nI (r))), (1, .long ((-1))), (0, .ref (a 0))]) hx hb dX5_best_26 rfl hl (by decide) rfl (fun ls hl => ?_)
    have hb0 : ∀ i, i < r → dB (begF wd2_1.1 wd2_1.2 (TX lx i) (ZX lx i)) = false := fun i hi => dB_f (fun z => beg_nlt z (hrw.2.1 i hi))
    have e_2 : ((-1)) = (lN (mx1 (fun i => dB (begF wd2_1.1 wd2_1.2 (TX lx i) (ZX lx i))) lx.2.2.1 r) - 1) := by rw [mx1_none (k := 0) r (Nat.zero_le _) (fun i _ hi => hb0 i hi)]; show (-1 : Int64) = lN 0 - 1; decide +kernel
    have hl : lv_has ls 4 [(3, .int (nI (r))), (1, .long (lN (mx1 (fun i => dB (begF wd2_1.1 wd2_1.2 (TX lx i) (ZX lx i))) lx.2.2.1 r) - 1)), (0, .ref (a 0))] := by rw [← e_2]; exact hl
    have loop : ∀ (fuel : Nat) (k : Nat), (r ≤ k) → (k ≤ lx.2.2.2) → lx.2.2.2 - k < fuel → ∀ (H : Heap) (locs : List Loc), va_P D vwCl (wX a cs (tp.1, 0) wd2_1 lx ro rs) H → va_S (inX a) s.heap H locs → ∀ ls : Array Slot, lv_has ls 4 [(0, .ref (a 0)), (1, .long (lN (mx1 (fun i => dB (begF wd2_1.1 wd2_1.2 (TX lx i) (ZX lx i))) lx.2.2.1 k) - 1)), (3, .int (nI (k)))] → W p l e rmX5_best s m args below meth c H locs 0 0 Q (F0 m 27 ls []) := by
      intro fuel
      induction fuel with
      | zero => intro k hk1 hk hf; exact absurd hf (Nat.not_lt_zero _)
      | succ fuel ih =>
        intro k hk1 hk hf H locs hP hS ls hl
        have hlc := hI.1.1
        have hmx := mx1_le (P := fun i => dB (begF wd2_1.1 wd2_1.2 (TX lx i) (ZX lx i))) hI.1.2.2.2.2 k
        refine lv_iload_n hx hb dX5_best_27 rfl (lv_at hl 2 rfl) ?_
        refine lv_aload_n hx hb dX5_best_28 rfl (lv_at hl 0 rfl) ?_
        refine va_get (D := D) (ci := 5) (v := .ref (a 3)) (C := RX5) (T := TX5) (N := 5) hx hb hts hinX5 hown hK hP 0 rfl rfl 2 (by decide) (hts (.fieldLink RX5 26 "TypoSuggester" "lexicon" "LTypoSuggester$Lexicon;") (by decide +kernel)) (fun _ h9 => h9) rfl dX5_best_29 ?_
        refine va_get (D := D) (ci := 0) (v := .int (nI (lx.2.2.2))) (C := RX0) (T := TX0) (N := 4) hx hb hts hinX0 hown hK hP 3 rfl rfl 3 (by decide) (hts (.fieldLink RX5 107 "TypoSuggester$Lexicon" "count" "I") (by decide +kernel)) (fun _ h9 => h9) rfl dX5_best_32 ?_
        refine nz_cge (a := k) (b := lx.2.2.2) (tgt := 73) hx hb dX5_best_35 (by decide) (by omega) (by omega) (fun c_35 => ?_) (fun c_35 => ?_)
        · have hend : ∀ i, k ≤ i → i < lx.2.2.2 → dB (begF wd2_1.1 wd2_1.2 (TX lx i) (ZX lx i)) = false := fun i h1 h2 => by
            rcases Nat.lt_or_ge k lx.2.2.2 with y | y
            · have hnb : ¬ begF wd2_1.1 wd2_1.2 (TX lx k) (ZX lx k) := fun z => by have h9 := dB_t z; first | (rw [h9] at c_50; cases c_50; done) | omega
              rcases Nat.lt_or_ge k i with x | x
              · exact dB_f (beg_after (hrw.2.2 k hk1 y) hnb (lx_sorted hI k i x h2))
              · rw [show i = k by omega]; exact dB_f hnb
            · omega
          refine lv_lload_n hx hb dX5_best_73 rfl (lv_at hl 1 rfl) ?_
          subst c_4
          have hmm : mx1 (fun i => dB (begF wd2_1.1 wd2_1.2 (TX lx i) (ZX lx i))) lx.2.2.1 k = mx1 (fun i => dB (begF (qF tp) tp.2 (TX lx i) (ZX lx i))) lx.2.2.1 lx.2.2.2 := by
            have e1 : mx1 (fun i => dB (begF wd2_1.1 wd2_1.2 (TX lx i) (ZX lx i))) lx.2.2.1 lx.2.2.2 = mx1 (fun i => dB (begF wd2_1.1 wd2_1.2 (TX lx i) (ZX lx i))) lx.2.2.1 k := mx1_none lx.2.2.2 hk hend
            rw [← e1]
            refine mx1_congr (fun i hi => dB_congr ?_) (fun _ _ => rfl)
            have e2 := hwd2.2 rfl
            unfold begF
            rw [e2.1]
            exact ⟨fun z => ⟨z.1, fun j hj => (z.2 j hj).trans (e2.2 j hj)⟩, fun z => ⟨z.1, fun j hj => (z.2 j hj).trans (e2.2 j hj).symm⟩⟩
          rw [hmm]
          exact hret 74 ls H locs dX5_best_74 ⟨_, hwd2.1, hP⟩ hS
        · refine lv_aload_n hx hb dX5_best_38 rfl (lv_at hl 0 rfl) ?_
          refine va_get (D := D) (ci := 5) (v := .ref (a 3)) (C := RX5) (T := TX5) (N := 5) hx hb hts hinX5 hown hK hP 0 rfl rfl 2 (by decide) (hts (.fieldLink RX5 26 "TypoSuggester" "lexicon" "LTypoSuggester$Lexicon;") (by decide +kernel)) (fun _ h9 => h9) rfl dX5_best_39 ?_
          refine lv_iload_n hx hb dX5_best_42 rfl (lv_at hl 2 rfl) ?_
          refine lv_aload_n hx hb dX5_best_43 rfl (lv_at hl 0 rfl) ?_
          refine va_get (D := D) (ci := 5) (v := .ref (a 2)) (C := RX5) (T := TX5) (N := 5) hx hb hts hinX5 hown hK hP 0 rfl rfl 1 (by decide) (hts (.fieldLink RX5 19 "TypoSuggester" "word" "LTypoSuggester$Word;") (by decide +kernel)) (fun _ h9 => h9) rfl dX5_best_44 ?_
          refine nz_callR (va_runV (As := [.int (nI (k)), .ref (a 2)]) (rest := []) ⟨hx, hb, hml, hown, hts⟩ (mX0_beginsWith l D a cs (tp.1, 0) wd2_1 lx ro rs k (dB (begF wd2_1.1 wd2_1.2 (TX lx k) (ZX lx k))) hI.1 hwd2.1 c_35 dB_iff) (cwV 2 hts gX5_best_X0_beginsWith rfl rfl rfl (by decide +kernel) ⟨Nat.le_of_ble_eq_true rfl, Nat.le_of_ble_eq_true rfl⟩) (nz_preV (ci := 0) (q0 := 3) hK hP rfl rfl) rfl rfl hl.1 rfl (lv_room (Nat.le_of_ble_eq_true rfl)) dX5_best_47 ⟨Nat.zero_le _, Nat.zero_le _⟩) ?_
          refine nz_ifeqB (tgt := 73) hx hb dX5_best_50 (by decide) (fun c_50 => ?_) (fun c_50 => ?_)
          · have hend : ∀ i, k ≤ i → i < lx.2.2.2 → dB (begF wd2_1.1 wd2_1.2 (TX lx i) (ZX lx i)) = false := fun i h1 h2 => by
              rcases Nat.lt_or_ge k lx.2.2.2 with y | y
              · have hnb : ¬ begF wd2_1.1 wd2_1.2 (TX lx k) (ZX lx k) := fun z => by have h9 := dB_t z; first | (rw [h9] at c_50; cases c_50; done) | omega
                rcases Nat.lt_or_ge k i with x | x
                · exact dB_f (beg_after (hrw.2.2 k hk1 y) hnb (lx_sorted hI k i x h2))
                · rw [show i = k by omega]; exact dB_f hnb
              · omega
            refine lv_lload_n hx hb dX5_best_73 rfl (lv_at hl 1 rfl) ?_
            subst c_4
            have hmm : mx1 (fun i => dB (begF wd2_1.1 wd2_1.2 (TX lx i) (ZX lx i))) lx.2.2.1 k = mx1 (fun i => dB (begF (qF tp) tp.2 (TX lx i) (ZX lx i))) lx.2.2.1 lx.2.2.2 := by
              have e1 : mx1 (fun i => dB (begF wd2_1.1 wd2_1.2 (TX lx i) (ZX lx i))) lx.2.2.1 lx.2.2.2 = mx1 (fun i => dB (begF wd2_1.1 wd2_1.2 (TX lx i) (ZX lx i))) lx.2.2.1 k := mx1_none lx.2.2.2 hk hend
              rw [← e1]
              refine mx1_congr (fun i hi => dB_congr ?_) (fun _ _ => rfl)
              have e2 := hwd2.2 rfl
              unfold begF
              rw [e2.1]
              exact ⟨fun z => ⟨z.1, fun j hj => (z.2 j hj).trans (e2.2 j hj)⟩, fun z => ⟨z.1, fun j hj => (z.2 j hj).trans (e2.2 j hj).symm⟩⟩
            rw [hmm]
            exact hret 74 ls H locs dX5_best_74 ⟨_, hwd2.1, hP⟩ hS
          · refine lv_lload_n hx hb dX5_best_53 rfl (lv_at hl 1 rfl) ?_
            refine lv_aload_n hx hb dX5_best_54 rfl (lv_at hl 0 rfl) ?_
            refine va_get (D := D) (ci := 5) (v := .ref (a 3)) (C := RX5) (T := TX5) (N := 5) hx hb hts hinX5 hown hK hP 0 rfl rfl 2 (by decide) (hts (.fieldLink RX5 26 "TypoSuggester" "lexicon" "LTypoSuggester$Lexicon;") (by decide +kernel)) (fun _ h9 => h9) rfl dX5_best_55 ?_
            refine va_get (D := D) (ci := 0) (v := .ref (a 10)) (C := RX0) (T := TX0) (N := 4) hx hb hts hinX0 hown hK hP 3 rfl rfl 2 (by decide) (hts (.fieldLink RX5 84 "TypoSuggester$Lexicon" "weights" "[J") (by decide +kernel)) (fun _ h9 => h9) rfl dX5_best_58 ?_
            refine lv_iload_n hx hb dX5_best_61 rfl (lv_at hl 2 rfl) ?_
            refine nz_lald (f := lx.2.2.1) (k := k) hx hb hK hP 10 2 rfl rfl (by omega) (by decide) dX5_best_62 ?_
            refine va_mmax_long hx hb (hml.trans hl.1.symm) hown (hts (.methodLink RX5 123 Lib.MathLoose.max_long.x) (by decide +kernel)) (hts (.static Lib.MathLoose.max_long.x) (by decide +kernel)) (hts (.initialized "java/lang/Math") (by decide +kernel)) (hts (.code Lib.MathLoose.max_long.x Lib.MathLoose.max_long.code 4 (some .long)) (by decide +kernel)) (Nat.le_of_ble_eq_true rfl) (Nat.le_of_ble_eq_true rfl) (Nat.zero_le _) (Nat.zero_le _) dX5_best_63 ?_
            refine lv_lstore_n (lv' := [(1, .long ((if lN (lx.2.2.1 k) < lN (mx1 (fun i => dB (begF wd2_1.1 wd2_1.2 (TX lx i) (ZX lx i))) lx.2.2.1 k) - 1 then lN (mx1 (fun i => dB (begF wd2_1.1 wd2_1.2 (TX lx i) (ZX lx i))) lx.2.2.1 k) - 1 else lN (lx.2.2.1 k)))), (0, .ref (a 0)), (3, .int (nI (k)))]) hx hb dX5_best_66 rfl hl (by decide) rfl (fun ls hl => ?_)
            have e_3 : ((if lN (lx.2.2.1 k) < lN (mx1 (fun i => dB (begF wd2_1.1 wd2_1.2 (TX lx i) (ZX lx i))) lx.2.2.1 k) - 1 then lN (mx1 (fun i => dB (begF wd2_1.1 wd2_1.2 (TX lx i) (ZX lx i))) lx.2.2.1 k) - 1 else lN (lx.2.2.1 k))) = (lN (mx1 (fun i => dB (begF wd2_1.1 wd2_1.2 (TX lx i) (ZX lx i))) lx.2.2.1 (k + 1)) - 1) := by rw [mx1_t (P := fun i => dB (begF wd2_1.1 wd2_1.2 (TX lx i) (ZX lx i))) c_50]; exact mx1_max hmx (hI.1.2.2.2.2 k)
            have hl : lv_has ls 4 [(1, .long (lN (mx1 (fun i => dB (begF wd2_1.1 wd2_1.2 (TX lx i) (ZX lx i))) lx.2.2.1 (k + 1)) - 1)), (0, .ref (a 0)), (3, .int (nI (k)))] := by rw [← e_3]; exact hl
            refine lv_iinc (v := nI (k + 1)) (lv' := [(3, .int (nI (k + 1))), (1, .long (lN (mx1 (fun i => dB (begF wd2_1.1 wd2_1.2 (TX lx i) (ZX lx i))) lx.2.2.1 (k + 1)) - 1)), (0, .ref (a 0))]) hx hb dX5_best_67 hl (k := 2) rfl (nz_inc1 _) (by decide) rfl (fun ls hl => ?_)
            refine lv_goto (tgt := 27) hx hb dX5_best_70 (by decide) ?_
            exact ih (k + 1) (by omega) (by omega) (by omega) H locs hP hS ls (lv_sub hl [2, 1, 0] rfl)
    exact loop (lx.2.2.2 - r + 1) r (Nat.le_refl _) hrw.1 (Nat.lt_succ_self _) H locs hP hS ls (lv_sub hl [2, 1, 0] rfl)
  · refine lv_ldc2 (v := (-1)) hx hb hown (hts (.constantLong RX5 96 (-1)) (by decide +kernel)) dX5_best_7 ?_
    subst c_4
    exact hret 10 ls H locs dX5_best_10 ⟨_, hwd2.1, hP⟩ hS
abbrev rmX5_found : Room := { frames := 0, cells := 0, slots := 0, locals := 0 }
set_option maxHeartbeats 4000000 in
set_option maxRecDepth 100000 in
theorem mX5_found (l : Launch) (D : va_G) (a : Nat → Nat) (cs : Nat → ClassId) (tp : (Nat → Int32) × Nat) (wd : (Nat → Nat) × Nat) (lx : (Nat → Nat) × (Nat → Nat) × (Nat → Nat) × Nat) (ro : Nat → Nat) (rs : (Nat → Nat) × (Nat → Nat) × (Nat → Nat) × (Nat → Nat) × (Nat → Nat) × Nat) : Met l yX5_found wsX5_found rmX5_found (wdP D vwCl (wX a cs tp wd lx ro rs) (tyX cs) [.ref (a 0)]) (rdQ (.int (nI (rs.2.2.2.2.2)))) 0 0 (fun _ => False) := by
  refine nz_metRi (by decide) rfl (Nat.le_of_ble_eq_true rfl) rfl ?_
  intro p e s m args below meth c Q hx hb hml hts hown hP hK hret ls hl
  have hl : lv_has ls 1 [(0, .ref (a 0))] := hl
  have hown : s.vm.findClass RX5 = some m.cls := hown
  have hinX5 : ∀ w ∈ u_ws RX5 TX5 5, w ∈ wsX5_found := by decide +kernel
  have hinX2 : ∀ w ∈ u_ws RX2 TX2 6, w ∈ wsX5_found := by decide +kernel
  refine lv_aload_n hx hb dX5_found_0 rfl (lv_at hl 0 rfl) ?_
  refine va_get (D := D) (ci := 5) (v := .ref (a 5)) (C := RX5) (T := TX5) (N := 5) hx hb hts hinX5 hown hK hP 0 rfl rfl 4 (by decide) (hts (.fieldLink RX5 40 "TypoSuggester" "result" "LTypoSuggester$Result;") (by decide +kernel)) (fun _ h9 => h9) rfl dX5_found_1 ?_
  refine va_get (D := D) (ci := 2) (v := .int (nI (rs.2.2.2.2.2))) (C := RX2) (T := TX2) (N := 6) hx hb hts hinX2 hown hK hP 5 rfl rfl 5 (by decide) (hts (.fieldLink RX5 104 "TypoSuggester$Result" "count" "I") (by decide +kernel)) (fun _ h9 => h9) rfl dX5_found_4 ?_
  exact hret 7 ls dX5_found_7
abbrev rmX5_terms : Room := { frames := 0, cells := 0, slots := 0, locals := 0 }
set_option maxHeartbeats 4000000 in
set_option maxRecDepth 100000 in
theorem mX5_terms (l : Launch) (D : va_G) (a : Nat → Nat) (cs : Nat → ClassId) (tp : (Nat → Int32) × Nat) (wd : (Nat → Nat) × Nat) (lx : (Nat → Nat) × (Nat → Nat) × (Nat → Nat) × Nat) (ro : Nat → Nat) (rs : (Nat → Nat) × (Nat → Nat) × (Nat → Nat) × (Nat → Nat) × (Nat → Nat) × Nat) : Met l yX5_terms wsX5_terms rmX5_terms (wdP D vwCl (wX a cs tp wd lx ro rs) (tyX cs) [.ref (a 0)]) (rdQ (.int (nI (lx.2.2.2)))) 0 0 (fun _ => False) := by
  refine nz_metRi (by decide) rfl (Nat.le_of_ble_eq_true rfl) rfl ?_
  intro p e s m args below meth c Q hx hb hml hts hown hP hK hret ls hl
  have hl : lv_has ls 1 [(0, .ref (a 0))] := hl
  have hown : s.vm.findClass RX5 = some m.cls := hown
  have hinX5 : ∀ w ∈ u_ws RX5 TX5 5, w ∈ wsX5_terms := by decide +kernel
  have hinX0 : ∀ w ∈ u_ws RX0 TX0 4, w ∈ wsX5_terms := by decide +kernel
  refine lv_aload_n hx hb dX5_terms_0 rfl (lv_at hl 0 rfl) ?_
  refine va_get (D := D) (ci := 5) (v := .ref (a 3)) (C := RX5) (T := TX5) (N := 5) hx hb hts hinX5 hown hK hP 0 rfl rfl 2 (by decide) (hts (.fieldLink RX5 26 "TypoSuggester" "lexicon" "LTypoSuggester$Lexicon;") (by decide +kernel)) (fun _ h9 => h9) rfl dX5_terms_1 ?_
  refine va_get (D := D) (ci := 0) (v := .int (nI (lx.2.2.2))) (C := RX0) (T := TX0) (N := 4) hx hb hts hinX0 hown hK hP 3 rfl rfl 3 (by decide) (hts (.fieldLink RX5 107 "TypoSuggester$Lexicon" "count" "I") (by decide +kernel)) (fun _ h9 => h9) rfl dX5_terms_4 ?_
  exact hret 7 ls dX5_terms_7
abbrev rmX5_letters : Room := { frames := 1, cells := 0, slots := 0, locals := 20 }
set_option maxHeartbeats 4000000 in
set_option maxRecDepth 100000 in
theorem mX5_letters (l : Launch) (D : va_G) (a : Nat → Nat) (cs : Nat → ClassId) (tp : (Nat → Int32) × Nat) (wd : (Nat → Nat) × Nat) (lx : (Nat → Nat) × (Nat → Nat) × (Nat → Nat) × Nat) (ro : Nat → Nat) (rs : (Nat → Nat) × (Nat → Nat) × (Nat → Nat) × (Nat → Nat) × (Nat → Nat) × Nat) (hB : LxB lx) : Met l yX5_letters wsX5_letters rmX5_letters (wdP D vwCl (wX a cs tp wd lx ro rs) (tyX cs) [.ref (a 0)]) (rdQ (.int (nI (lx.2.1 lx.2.2.2)))) 0 0 (fun _ => False) := by
  refine nz_metRi (by decide) rfl (Nat.le_of_ble_eq_true rfl) rfl ?_
  intro p e s m args below meth c Q hx hb hml hts hown hP hK hret ls hl
  have hl : lv_has ls 1 [(0, .ref (a 0))] := hl
  have hown : s.vm.findClass RX5 = some m.cls := hown
  have hinX5 : ∀ w ∈ u_ws RX5 TX5 5, w ∈ wsX5_letters := by decide +kernel
  refine lv_aload_n hx hb dX5_letters_0 rfl (lv_at hl 0 rfl) ?_
  refine va_get (D := D) (ci := 5) (v := .ref (a 3)) (C := RX5) (T := TX5) (N := 5) hx hb hts hinX5 hown hK hP 0 rfl rfl 2 (by decide) (hts (.fieldLink RX5 26 "TypoSuggester" "lexicon" "LTypoSuggester$Lexicon;") (by decide +kernel)) (fun _ h9 => h9) rfl dX5_letters_1 ?_
  refine nz_callR (va_runV (As := []) (rest := []) ⟨hx, hb, hml, hown, hts⟩ (mX0_size l D a cs tp wd lx ro rs hB) (cwV 0 hts gX5_letters_X0_size rfl rfl rfl (by decide +kernel) ⟨Nat.le_of_ble_eq_true rfl, Nat.le_of_ble_eq_true rfl⟩) (nz_preV (ci := 0) (q0 := 3) hK hP rfl rfl) rfl rfl hl.1 rfl (lv_room (Nat.le_of_ble_eq_true rfl)) dX5_letters_4 ⟨Nat.zero_le _, Nat.zero_le _⟩) ?_
  exact hret 7 ls dX5_letters_7
abbrev rmX5_letter : Room := { frames := 1, cells := 0, slots := 0, locals := 22 }
set_option maxHeartbeats 4000000 in
set_option maxRecDepth 100000 in
theorem mX5_letter (l : Launch) (D : va_G) (a : Nat → Nat) (cs : Nat → ClassId) (tp : (Nat → Int32) × Nat) (wd : (Nat → Nat) × Nat) (lx : (Nat → Nat) × (Nat → Nat) × (Nat → Nat) × Nat) (ro : Nat → Nat) (rs : (Nat → Nat) × (Nat → Nat) × (Nat → Nat) × (Nat → Nat) × (Nat → Nat) × Nat) (i : Int32) (j : Int32) (hR : RsB rs) : Met l yX5_letter wsX5_letter rmX5_letter (wdP D vwCl (wX a cs tp wd lx ro rs) (tyX cs) [.ref (a 0), .int (i), .int (j)]) (rdQ (.int (termF rs.2.2.2.2.2 rs.2.2.2.1 (fun x y => rs.2.2.2.2.1 (x * 24 + y)) i j))) 0 0 (fun _ => False) := by
  refine nz_metRi (by decide) rfl (Nat.le_of_ble_eq_true rfl) rfl ?_
  intro p e s m args below meth c Q hx hb hml hts hown hP hK hret ls hl
  have hl : lv_has ls 3 [(0, .ref (a 0)), (1, .int (i)), (2, .int (j))] := hl
  have hown : s.vm.findClass RX5 = some m.cls := hown
  have hinX5 : ∀ w ∈ u_ws RX5 TX5 5, w ∈ wsX5_letter := by decide +kernel
  refine lv_aload_n hx hb dX5_letter_0 rfl (lv_at hl 0 rfl) ?_
  refine va_get (D := D) (ci := 5) (v := .ref (a 5)) (C := RX5) (T := TX5) (N := 5) hx hb hts hinX5 hown hK hP 0 rfl rfl 4 (by decide) (hts (.fieldLink RX5 40 "TypoSuggester" "result" "LTypoSuggester$Result;") (by decide +kernel)) (fun _ h9 => h9) rfl dX5_letter_1 ?_
  refine lv_iload_n hx hb dX5_letter_4 rfl (lv_at hl 1 rfl) ?_
  refine lv_iload_n hx hb dX5_letter_5 rfl (lv_at hl 2 rfl) ?_
  refine nz_callR (va_runV (As := [.int (i), .int (j)]) (rest := []) ⟨hx, hb, hml, hown, hts⟩ (mX2_letterOf l D a cs tp wd lx ro rs i j hR) (cwV 2 hts gX5_letter_X2_letterOf rfl rfl rfl (by decide +kernel) ⟨Nat.le_of_ble_eq_true rfl, Nat.le_of_ble_eq_true rfl⟩) (nz_preV (ci := 2) (q0 := 5) hK hP rfl rfl) rfl rfl hl.1 rfl (lv_room (Nat.le_of_ble_eq_true rfl)) dX5_letter_6 ⟨Nat.zero_le _, Nat.zero_le _⟩) ?_
  exact hret 9 ls dX5_letter_9
abbrev rmX5_term : Room := { frames := 2, cells := 0, slots := 0, locals := 43 }
set_option maxHeartbeats 4000000 in
set_option maxRecDepth 100000 in
theorem mX5_term (l : Launch) (D : va_G) (a : Nat → Nat) (cs : Nat → ClassId) (tp : (Nat → Int32) × Nat) (wd : (Nat → Nat) × Nat) (lx : (Nat → Nat) × (Nat → Nat) × (Nat → Nat) × Nat) (ro : Nat → Nat) (rs : (Nat → Nat) × (Nat → Nat) × (Nat → Nat) × (Nat → Nat) × (Nat → Nat) × Nat) (i : Int32) (j : Int32) (hB : LxB lx) : Met l yX5_term wsX5_term rmX5_term (wdP D vwCl (wX a cs tp wd lx ro rs) (tyX cs) [.ref (a 0), .int (i), .int (j)]) (rdQ (.int (termF lx.2.2.2 (ZX lx) (TX lx) i j))) 0 0 (fun _ => False) := by
  refine nz_metRi (by decide) rfl (Nat.le_of_ble_eq_true rfl) rfl ?_
  intro p e s m args below meth c Q hx hb hml hts hown hP hK hret ls hl
  have hl : lv_has ls 3 [(0, .ref (a 0)), (1, .int (i)), (2, .int (j))] := hl
  have hown : s.vm.findClass RX5 = some m.cls := hown
  have hinX5 : ∀ w ∈ u_ws RX5 TX5 5, w ∈ wsX5_term := by decide +kernel
  refine lv_aload_n hx hb dX5_term_0 rfl (lv_at hl 0 rfl) ?_
  refine va_get (D := D) (ci := 5) (v := .ref (a 3)) (C := RX5) (T := TX5) (N := 5) hx hb hts hinX5 hown hK hP 0 rfl rfl 2 (by decide) (hts (.fieldLink RX5 26 "TypoSuggester" "lexicon" "LTypoSuggester$Lexicon;") (by decide +kernel)) (fun _ h9 => h9) rfl dX5_term_1 ?_
  refine lv_iload_n hx hb dX5_term_4 rfl (lv_at hl 1 rfl) ?_
  refine lv_iload_n hx hb dX5_term_5 rfl (lv_at hl 2 rfl) ?_
  refine nz_callR (va_runV (As := [.int (i), .int (j)]) (rest := []) ⟨hx, hb, hml, hown, hts⟩ (mX0_letterOf l D a cs tp wd lx ro rs i j hB) (cwV 2 hts gX5_term_X0_letterOf rfl rfl rfl (by decide +kernel) ⟨Nat.le_of_ble_eq_true rfl, Nat.le_of_ble_eq_true rfl⟩) (nz_preV (ci := 0) (q0 := 3) hK hP rfl rfl) rfl rfl hl.1 rfl (lv_room (Nat.le_of_ble_eq_true rfl)) dX5_term_6 ⟨Nat.zero_le _, Nat.zero_le _⟩) ?_
  exact hret 9 ls dX5_term_9
abbrev rmX5_prefixes : Room := { frames := 3, cells := 0, slots := 0, locals := 68 }
set_option maxHeartbeats 4000000 in
set_option maxRecDepth 100000 in
theorem mX5_prefixes (l : Launch) (D : va_G) (a : Nat → Nat) (cs : Nat → ClassId) (tp : (Nat → Int32) × Nat) (wd : (Nat → Nat) × Nat) (lx : (Nat → Nat) × (Nat → Nat) × (Nat → Nat) × Nat) (ro : Nat → Nat) (rs : (Nat → Nat) × (Nat → Nat) × (Nat → Nat) × (Nat → Nat) × (Nat → Nat) × Nat) (sh : Nat → Nat) (hB : LxB lx) (hsh : ∀ i, i + 1 < lx.2.2.2 → IsLcp (TX lx i) (TX lx (i + 1)) (min (ZX lx i) (ZX lx (i + 1))) (sh i)) : Met l yX5_prefixes wsX5_prefixes rmX5_prefixes (wdP D vwCl (wX a cs tp wd lx ro rs) (tyX cs) [.ref (a 0)]) (rdQ (.int (nI (if lx.2.2.2 = 0 then 0 else 1 + lx.2.1 lx.2.2.2 - sumF sh (lx.2.2.2 - 1))))) 0 0 (fun _ => False) := by
  refine nz_metRi (by decide) rfl (Nat.le_of_ble_eq_true rfl) rfl ?_
  intro p e s m args below meth c Q hx hb hml hts hown hP hK hret ls hl
  have hl : lv_has ls 1 [(0, .ref (a 0))] := hl
  have hown : s.vm.findClass RX5 = some m.cls := hown
  have hinX5 : ∀ w ∈ u_ws RX5 TX5 5, w ∈ wsX5_prefixes := by decide +kernel
  refine lv_aload_n hx hb dX5_prefixes_0 rfl (lv_at hl 0 rfl) ?_
  refine va_get (D := D) (ci := 5) (v := .ref (a 3)) (C := RX5) (T := TX5) (N := 5) hx hb hts hinX5 hown hK hP 0 rfl rfl 2 (by decide) (hts (.fieldLink RX5 26 "TypoSuggester" "lexicon" "LTypoSuggester$Lexicon;") (by decide +kernel)) (fun _ h9 => h9) rfl dX5_prefixes_1 ?_
  refine nz_callR (va_runV (As := []) (rest := []) ⟨hx, hb, hml, hown, hts⟩ (mX0_countPrefixes l D a cs tp wd lx ro rs sh hB hsh) (cwV 0 hts gX5_prefixes_X0_countPrefixes rfl rfl rfl (by decide +kernel) ⟨Nat.le_of_ble_eq_true rfl, Nat.le_of_ble_eq_true rfl⟩) (nz_preV (ci := 0) (q0 := 3) hK hP rfl rfl) rfl rfl hl.1 rfl (lv_room (Nat.le_of_ble_eq_true rfl)) dX5_prefixes_4 ⟨Nat.zero_le _, Nat.zero_le _⟩) ?_
  exact hret 7 ls dX5_prefixes_7
abbrev rmX5_of : Room := { frames := 0, cells := 0, slots := 0, locals := 0 }
set_option maxHeartbeats 4000000 in
set_option maxRecDepth 100000 in
theorem mX5_of (l : Launch) (D : va_G) (a : Nat → Nat) (cs : Nat → ClassId) (tp : (Nat → Int32) × Nat) (wd : (Nat → Nat) × Nat) (lx : (Nat → Nat) × (Nat → Nat) × (Nat → Nat) × Nat) (ro : Nat → Nat) (rs : (Nat → Nat) × (Nat → Nat) × (Nat → Nat) × (Nat → Nat) × (Nat → Nat) × Nat) (i : Int32) (y : Int32) (hR : RsB rs) (hnr : ∀ j, rs.2.2.1 j ≤ 100) : Met l yX5_of wsX5_of rmX5_of (wdP D vwCl (wX a cs tp wd lx ro rs) (tyX cs) [.ref (a 0), .int (i), .int (y)]) (rdQ (.long (ofL rs.2.2.2.2.2 rs.2.2.2.1 rs.2.1 rs.2.2.1 i y))) 0 0 (fun _ => False) := by
  obtain ⟨hR1, hR2, hR3⟩ := hR
  refine nz_metRl (by decide) rfl (Nat.le_of_ble_eq_true rfl) ?_
  intro p e s m args below meth c Q hx hb hml hts hown hP hK hret ls hl
  have hl : lv_has ls 3 [(0, .ref (a 0)), (1, .int (i)), (2, .int (y))] := hl
  have hown : s.vm.findClass RX5 = some m.cls := hown
  have hinX5 : ∀ w ∈ u_ws RX5 TX5 5, w ∈ wsX5_of := by decide +kernel
  have hinX2 : ∀ w ∈ u_ws RX2 TX2 6, w ∈ wsX5_of := by decide +kernel
  refine lv_iload_n hx hb dX5_of_0 rfl (lv_at hl 1 rfl) ?_
  refine lv_if_lt (tgt := 15) hx hb dX5_of_1 (by decide) (fun c_1 => ?_) (fun c_1 => ?_)
  · have hz : ofL rs.2.2.2.2.2 rs.2.2.2.1 rs.2.1 rs.2.2.1 i y = -1 := if_neg (fun z => z.1 c_1)
    refine lv_ldc2 (v := (-1)) hx hb hown (hts (.constantLong RX5 96 (-1)) (by decide +kernel)) dX5_of_15 ?_
    rw [hz] at hret
    exact hret 18 ls dX5_of_18
  · obtain ⟨i1, hi1, rfl⟩ := nI_of c_1
    refine lv_iload_n hx hb dX5_of_4 rfl (lv_at hl 1 rfl) ?_
    refine lv_aload_n hx hb dX5_of_5 rfl (lv_at hl 0 rfl) ?_
    refine va_get (D := D) (ci := 5) (v := .ref (a 5)) (C := RX5) (T := TX5) (N := 5) hx hb hts hinX5 hown hK hP 0 rfl rfl 4 (by decide) (hts (.fieldLink RX5 40 "TypoSuggester" "result" "LTypoSuggester$Result;") (by decide +kernel)) (fun _ h9 => h9) rfl dX5_of_6 ?_
    refine va_get (D := D) (ci := 2) (v := .int (nI (rs.2.2.2.2.2))) (C := RX2) (T := TX2) (N := 6) hx hb hts hinX2 hown hK hP 5 rfl rfl 5 (by decide) (hts (.fieldLink RX5 104 "TypoSuggester$Result" "count" "I") (by decide +kernel)) (fun _ h9 => h9) rfl dX5_of_9 ?_
    refine nz_clt (a := i1) (b := rs.2.2.2.2.2) (tgt := 19) hx hb dX5_of_12 (by decide) (by omega) (by omega) (fun c_12 => ?_) (fun c_12 => ?_)
    · refine lv_iload_n hx hb dX5_of_19 rfl (lv_at hl 2 rfl) ?_
      have hof : ofL rs.2.2.2.2.2 rs.2.2.2.1 rs.2.1 rs.2.2.1 (nI i1) y = (if y = 0 then lN (rs.2.2.2.1 i1) else if y = 1 then lN (rs.2.1 i1) else if y = 2 then lN (rs.2.2.1 i1) else -1) := by unfold ofL; rw [nI_clamp hi1, if_pos ⟨nI_pos hi1, c_12⟩]
      rw [hof] at hret
      by_cases hy0 : y = 0
      · subst hy0
        refine lv_tableIn (tgt := 48) hx hb dX5_of_20 (by decide) (by decide) rfl (by decide) ?_
        refine lv_aload_n hx hb dX5_of_48 rfl (lv_at hl 0 rfl) ?_
        refine va_get (D := D) (ci := 5) (v := .ref (a 5)) (C := RX5) (T := TX5) (N := 5) hx hb hts hinX5 hown hK hP 0 rfl rfl 4 (by decide) (hts (.fieldLink RX5 40 "TypoSuggester" "result" "LTypoSuggester$Result;") (by decide +kernel)) (fun _ h9 => h9) rfl dX5_of_49 ?_
        refine va_get (D := D) (ci := 2) (v := .ref (a 15)) (C := RX2) (T := TX2) (N := 6) hx hb hts hinX2 hown hK hP 5 rfl rfl 3 (by decide) (hts (.fieldLink RX5 136 "TypoSuggester$Result" "lengths" "[I") (by decide +kernel)) (fun _ h9 => h9) rfl dX5_of_52 ?_
        refine lv_iload_n hx hb dX5_of_55 rfl (lv_at hl 1 rfl) ?_
        refine nz_iald (f := rs.2.2.2.1) (k := i1) hx hb hK hP 15 1 rfl rfl (by omega) (by decide) dX5_of_56 ?_
        refine nz_i2l hx hb dX5_of_57 (by have := hR3 i1; omega) ?_
        rw [if_pos rfl] at hret
        exact hret 58 ls dX5_of_58
      by_cases hy1 : y = 1
      · subst hy1
        refine lv_tableIn (tgt := 59) hx hb dX5_of_20 (by decide) (by decide) rfl (by decide) ?_
        refine lv_aload_n hx hb dX5_of_59 rfl (lv_at hl 0 rfl) ?_
        refine va_get (D := D) (ci := 5) (v := .ref (a 5)) (C := RX5) (T := TX5) (N := 5) hx hb hts hinX5 hown hK hP 0 rfl rfl 4 (by decide) (hts (.fieldLink RX5 40 "TypoSuggester" "result" "LTypoSuggester$Result;") (by decide +kernel)) (fun _ h9 => h9) rfl dX5_of_60 ?_
        refine va_get (D := D) (ci := 2) (v := .ref (a 13)) (C := RX2) (T := TX2) (N := 6) hx hb hts hinX2 hown hK hP 5 rfl rfl 1 (by decide) (hts (.fieldLink RX5 140 "TypoSuggester$Result" "weights" "[J") (by decide +kernel)) (fun _ h9 => h9) rfl dX5_of_63 ?_
        refine lv_iload_n hx hb dX5_of_66 rfl (lv_at hl 1 rfl) ?_
        refine nz_lald (f := rs.2.1) (k := i1) hx hb hK hP 13 2 rfl rfl (by omega) (by decide) dX5_of_67 ?_
        rw [if_neg (by decide), if_pos rfl] at hret
        exact hret 68 ls dX5_of_68
      by_cases hy2 : y = 2
      · subst hy2
        refine lv_tableIn (tgt := 69) hx hb dX5_of_20 (by decide) (by decide) rfl (by decide) ?_
        refine lv_aload_n hx hb dX5_of_69 rfl (lv_at hl 0 rfl) ?_
        refine va_get (D := D) (ci := 5) (v := .ref (a 5)) (C := RX5) (T := TX5) (N := 5) hx hb hts hinX5 hown hK hP 0 rfl rfl 4 (by decide) (hts (.fieldLink RX5 40 "TypoSuggester" "result" "LTypoSuggester$Result;") (by decide +kernel)) (fun _ h9 => h9) rfl dX5_of_70 ?_
        refine va_get (D := D) (ci := 2) (v := .ref (a 14)) (C := RX2) (T := TX2) (N := 6) hx hb hts hinX2 hown hK hP 5 rfl rfl 2 (by decide) (hts (.fieldLink RX5 141 "TypoSuggester$Result" "nearnesses" "[I") (by decide +kernel)) (fun _ h9 => h9) rfl dX5_of_73 ?_
        refine lv_iload_n hx hb dX5_of_76 rfl (lv_at hl 1 rfl) ?_
        refine nz_iald (f := rs.2.2.1) (k := i1) hx hb hK hP 14 1 rfl rfl (by omega) (by decide) dX5_of_77 ?_
        refine nz_i2l hx hb dX5_of_78 (by have := hnr i1; omega) ?_
        rw [if_neg (by decide), if_neg (by decide), if_pos rfl] at hret
        exact hret 79 ls dX5_of_79
      refine lv_tableOut (tgt := 80) hx hb dX5_of_20 (by
        have z0 : y.toInt ≠ 0 := fun z => hy0 (Int32.toInt_inj.mp z)
        have z1 : y.toInt ≠ 1 := fun z => hy1 (Int32.toInt_inj.mp z)
        have z2 : y.toInt ≠ 2 := fun z => hy2 (Int32.toInt_inj.mp z)
        omega) (by decide) ?_
      refine lv_ldc2 (v := (-1)) hx hb hown (hts (.constantLong RX5 96 (-1)) (by decide +kernel)) dX5_of_80 ?_
      rw [if_neg hy0, if_neg hy1, if_neg hy2] at hret
      exact hret 83 ls dX5_of_83
    · have hz : ofL rs.2.2.2.2.2 rs.2.2.2.1 rs.2.1 rs.2.2.1 (nI i1) y = -1 := if_neg (fun z => by have := z.2; rw [nI_clamp hi1] at this; omega)
      refine lv_ldc2 (v := (-1)) hx hb hown (hts (.constantLong RX5 96 (-1)) (by decide +kernel)) dX5_of_15 ?_
      rw [hz] at hret
      exact hret 18 ls dX5_of_18
