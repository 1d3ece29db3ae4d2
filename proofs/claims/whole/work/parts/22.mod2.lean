/-! The reference: set, drop, weight, rank, nearnessOf, near, best, prefixes. -/
theorem low_q {mt : TpT} (h : goodT mt) : ∀ j, j < mt.2 → lowN (mt.1 (0 + j)) = qF mt j := fun j hj => by
  have h1 := h.2 j hj
  obtain ⟨n, h2, h3, e⟩ := smB_nat h1
  show lowN (mt.1 (0 + j)) = (mt.1 j).toNatClampNeg
  rw [Nat.zero_add, e]
  have h4 : smI (nI n) = nI n := by
    unfold smI
    rw [if_pos (smB_of h2 h3)]
  unfold lowN
  rw [h4, if_neg (fun z => absurd (by rw [z]; decide +kernel) (nI_pos (n := n) (by omega)))]
theorem low_ne {mt : TpT} (h : goodT mt) : ∀ j, j < mt.2 → lowN (mt.1 (0 + j)) ≠ 0 := fun j hj => by
  rw [low_q h j hj]
  obtain ⟨n, h2, h3, e⟩ := smB_nat (h.2 j hj)
  show (mt.1 j).toNatClampNeg ≠ 0
  rw [e, nI_clamp (by omega)]
  omega
theorem eqF_congr {f f' g : Nat → Nat} {n z : Nat} (h : ∀ j, j < n → f j = f' j) : eqF f n g z ↔ eqF f' n g z :=
  ⟨fun q => ⟨q.1, fun j hj => (h j hj).symm.trans (q.2 j hj)⟩, fun q => ⟨q.1, fun j hj => (h j hj).trans (q.2 j hj)⟩⟩
/-- the place of f in the reference's rows, where it does not stand -/
def PLm (ml : MlT) (f : Nat → Nat) (n r : Nat) : Prop := r ≤ ml.2.2.2.1 ∧ (∀ i, i < r → ltF (TM ml i) (ZM ml i) f n) ∧ (∀ i, r ≤ i → i < ml.2.2.2.1 → ltF f n (TM ml i) (ZM ml i))
def FnM (ml : MlT) (f : Nat → Nat) (n : Nat) (b1 : Bool) (r : Nat) : Prop := (b1 = true → r < ml.2.2.2.1 ∧ eqF f n (TM ml r) (ZM ml r)) ∧ (∀ i, (b1 = true → i < r) → i < ml.2.2.2.1 → ¬ eqF f n (TM ml i) (ZM ml i)) ∧ (b1 = false → PLm ml f n r)
def mlSet (ml : MlT) (r wt : Nat) : MlT := (ml.1, ml.2.1, va_up ml.2.2.1 r wt, ml.2.2.2.1, ml.2.2.2.2)
theorem mlB_set {ml : MlT} {r wt : Nat} (h : MlB ml) (hw : wt ≤ 1000000000000) : MlB (mlSet ml r wt) := ⟨h.1, h.2.1, h.2.2.1, up_le h.2.2.2.1 hw, h.2.2.2.2⟩
/-- the row at r has gone; those up to k have come one place down -/
def DlM (ml ml2 : MlT) (r k n : Nat) : Prop := MlB ml2 ∧ ml2.2.2.2.1 = ml.2.2.2.1 - 1 ∧ ml2.2.2.2.2 = ml.2.2.2.2 - n ∧ (∀ i, i < r → ml2.2.1 i = ml.2.1 i ∧ (∀ j, j < 24 → ml2.1 (24 * i + j) = ml.1 (24 * i + j)) ∧ ml2.2.2.1 i = ml.2.2.1 i) ∧ (∀ i, r ≤ i → i < k → ml2.2.1 i = ml.2.1 (i + 1) ∧ (∀ j, j < 24 → ml2.1 (24 * i + j) = ml.1 (24 * (i + 1) + j)) ∧ ml2.2.2.1 i = ml.2.2.1 (i + 1)) ∧ (∀ i, k ≤ i → ml2.2.1 i = ml.2.1 i ∧ (∀ j, j < 24 → ml2.1 (24 * i + j) = ml.1 (24 * i + j)) ∧ ml2.2.2.1 i = ml.2.2.1 i)
theorem dlM_step {ml ml2 : MlT} {r k n : Nat} (h : DlM ml ml2 r k n) (hr : r ≤ k) : DlM ml (va_cpy ml2.1 ml2.1 (24 * (k + 1)) (24 * k) 24, va_up ml2.2.1 k (ml2.2.1 (k + 1)), va_up ml2.2.2.1 k (ml2.2.2.1 (k + 1)), ml2.2.2.2.1, ml2.2.2.2.2) r (k + 1) n := by
  obtain ⟨⟨b1, b2, b3, b4, b5⟩, h2, h3, h4, h5, h6⟩ := h
  refine ⟨⟨b1, up_le b2 (b2 _), cpy_lt b3 b3, up_le b4 (b4 _), b5⟩, h2, h3, fun i hi => ?_, fun i hi hk => ?_, fun i hi => ?_⟩
  · obtain ⟨q1, q2, q3⟩ := h4 i hi
    refine ⟨by show va_up _ _ _ i = _; rw [up_ne (by omega)]; exact q1, fun j hj => ?_, by show va_up _ _ _ i = _; rw [up_ne (by omega)]; exact q3⟩
    show va_cpy ml2.1 ml2.1 _ _ _ _ = _
    rw [pk_cpy_out (Or.inl (by omega))]
    exact q2 j hj
  · rcases Nat.lt_or_ge i k with z | z
    · obtain ⟨q1, q2, q3⟩ := h5 i hi z
      refine ⟨by show va_up _ _ _ i = _; rw [up_ne (by omega)]; exact q1, fun j hj => ?_, by show va_up _ _ _ i = _; rw [up_ne (by omega)]; exact q3⟩
      show va_cpy ml2.1 ml2.1 _ _ _ _ = _
      rw [pk_cpy_out (Or.inl (by omega))]
      exact q2 j hj
    · have e : i = k := by omega
      subst e
      obtain ⟨q1, q2, q3⟩ := h6 (i + 1) (by omega)
      refine ⟨by show va_up _ _ _ i = _; rw [up_eq]; exact q1, fun j hj => ?_, by show va_up _ _ _ i = _; rw [up_eq]; exact q3⟩
      show va_cpy ml2.1 ml2.1 _ _ _ _ = _
      rw [pk_cpy_in (by omega) (by omega), ← q2 j hj]
      exact cg (by omega)
  · obtain ⟨q1, q2, q3⟩ := h6 i (by omega)
    refine ⟨by show va_up _ _ _ i = _; rw [up_ne (by omega)]; exact q1, fun j hj => ?_, by show va_up _ _ _ i = _; rw [up_ne (by omega)]; exact q3⟩
    show va_cpy ml2.1 ml2.1 _ _ _ _ = _
    rw [pk_cpy_out (Or.inr (by omega))]
    exact q2 j hj
theorem dlM_view {ml ml2 : MlT} {r n : Nat} (hM : MlB ml) (h : DlM ml ml2 r (ml.2.2.2.1 - 1) n) : VDel ml.2.2.2.1 r (ZM ml) (TM ml) ml.2.2.1 (ZM ml2) (TM ml2) ml2.2.2.1 := by
  obtain ⟨_, h2, h3, h4, h5, h6⟩ := h
  have hz := hM.2.1
  refine ⟨fun i hi => ?_, fun i hi hn => ?_⟩
  · obtain ⟨q1, q2, q3⟩ := h4 i hi
    exact ⟨q1, fun k hk => q2 k (Nat.lt_of_lt_of_le hk (hz i)), q3⟩
  · obtain ⟨q1, q2, q3⟩ := h5 i hi (by omega)
    exact ⟨q1, fun k hk => q2 k (Nat.lt_of_lt_of_le hk (hz (i + 1))), q3⟩
theorem rows_0 (q t : Nat → Nat) : ∀ j, rowsF q t j 0 = j
  | 0 => rfl
  | j + 1 => by
    show rowsF q t j 0 + 1 = j + 1
    rw [rows_0 q t j]
theorem pb_neg {b : Bool} {r : Nat} (hr : r < 2 ^ 31) (h : (bif b then nI r else (-1)) < 0) : b = false := by
  cases b with
  | false => rfl
  | true => exact absurd h (nI_pos hr)
theorem pb_pos {b : Bool} {r : Nat} (h : ¬ (bif b then nI r else (-1)) < 0) : b = true := by
  cases b with
  | true => rfl
  | false => exact absurd (show (-1 : Int32) < 0 by decide +kernel) h
theorem vins_congr {n p : Nat} {Z : Nat → Nat} {T : Nat → Nat → Nat} {V : Nat → Nat} {Z' : Nat → Nat} {T' : Nat → Nat → Nat} {V' : Nat → Nat} {f f' : Nat → Nat} {len wt : Nat} (e : ∀ j, j < len → f j = f' j) (h : VIns n p Z T V Z' T' V' f len wt) : VIns n p Z T V Z' T' V' f' len wt :=
  ⟨h.1, ⟨h.2.1.1, fun k hk => (h.2.1.2.1 k hk).trans (e k hk), h.2.1.2.2⟩, h.2.2⟩
abbrev rmX6_set : Room := { frames := 3, cells := 0, slots := 0, locals := 71 }
set_option maxHeartbeats 4000000 in
set_option maxRecDepth 100000 in
theorem mX6_set (l : Launch) (D : va_G) (b : Nat → Nat) (cs : Nat → ClassId) (mt : (Nat → Int32) × Nat) (ml : (Nat → Nat) × (Nat → Nat) × (Nat → Nat) × Nat × Nat) (mr : (Nat → Nat) × (Nat → Nat) × (Nat → Nat) × (Nat → Nat) × Nat) (mk : (Nat → Bool) × (Nat → Nat) × (Nat → Nat)) (x : Int64) (bb : Bool) (r : Nat) (b1 : Bool) (b2 : Bool) (b3 : Bool) (hb2 : wInjM b) (hM : MlB ml) (hT : mt.2 ≤ 400) (hbb : bb = true ↔ (goodT mt ∧ 0 < mt.2)) (hfn : FnM ml (qF mt) mt.2 b1 r) (hb9 : b2 = true ↔ (ml.2.2.2.1 < 600 ∧ ml.2.2.2.2 + mt.2 ≤ 6000)) (hb3 : b3 = true ↔ setOk x) (hrb : r ≤ 600) : Met l yX6_set wsX6_set rmX6_set (wdP D vwCl (wM b cs mt ml mr mk) (tyX cs) [.ref (b 0), .long (x)]) (wrQ (some (.int (bif (bb && b3) then (bif b1 then nI 0 else (bif b2 then nI 1 else (-2))) else (-1)))) (fun H => ∃ ml9, (MlB ml9 ∧ ((bb && b3) = false → ml9 = ml) ∧ ((bb && b3) = true → (b1 = true → ml9 = mlSet ml r (lW x)) ∧ (b1 = false → (b2 = true → VIns ml.2.2.2.1 r (ZM ml) (TM ml) ml.2.2.1 (ZM ml9) (TM ml9) ml9.2.2.1 (qF mt) mt.2 (lW x) ∧ ml9.2.2.2.1 = ml.2.2.2.1 + 1 ∧ ml9.2.2.2.2 = ml.2.2.2.2 + mt.2) ∧ (b2 = false → ml9 = ml)))) ∧ va_P D vwCl (wM b cs (mt.1, 0) ml9 mr mk) H) (inM b)) 0 0 (inM b) := by
  obtain ⟨hM1, hM2, hM3, hM4, hM5⟩ := id hM
  refine nz_metWi (by decide) rfl (Nat.le_of_ble_eq_true rfl) rfl ?_
  intro p e s m args below meth c Q hx hb hml hts hown hP hK hret ls hl
  have hl : lv_has ls 5 [(0, .ref (b 0)), (1, .long (x))] := hl
  have hown : s.vm.findClass RX6 = some m.cls := hown
  have hinX6 : ∀ w ∈ u_ws RX6 TX6 15, w ∈ wsX6_set := by decide +kernel
  have hS : va_S (inM b) s.heap s.heap [] := va_S.rf
  obtain ⟨H, hH⟩ : ∃ H, H = s.heap := ⟨_, rfl⟩
  obtain ⟨locs, hlocs⟩ : ∃ locs : List Loc, locs = [] := ⟨_, rfl⟩
  have hP : va_P D vwCl (wM b cs mt ml mr mk) H := hH ▸ hP
  have hS : va_S (inM b) s.heap H locs := by rw [hH, hlocs]; exact va_S.rf
  suffices hgo : W p l e rmX6_set s m args below meth c H locs 0 0 Q (F0 m 0 ls []) by rw [hH, hlocs] at hgo; exact hgo
  clear hH hlocs
  refine lv_aload_n hx hb dX6_set_0 rfl (lv_at hl 0 rfl) ?_
  refine lv_iconst (v := nI 1) hx hb dX6_set_1 (by decide +kernel) ?_
  refine nz_callW (va_runV (As := [.int (nI (1))]) (rest := []) ⟨hx, hb, hml, hown, hts⟩ (mX6_taken l D b cs mt ml mr mk 1 bb hb2 hT (by omega) hbb) (cwV 1 hts gX6_set_X6_taken rfl rfl rfl (by decide +kernel) ⟨Nat.le_of_ble_eq_true rfl, Nat.le_of_ble_eq_true rfl⟩) (nz_preV (ci := 6) (q0 := 0) hK hP rfl rfl) rfl rfl hl.1 rfl (lv_room (Nat.le_of_ble_eq_true rfl)) dX6_set_2 ⟨Nat.zero_le _, Nat.zero_le _⟩) hS (fun _ h => h) (fun H locs hP _ _ hS => ?_)
  refine lv_istore_n (lv' := [(3, .int (bif bb then nI mt.2 else (-1))), (0, .ref (b 0)), (1, .long (x))]) hx hb dX6_set_5 rfl hl (by decide) rfl (fun ls hl => ?_)
  refine lv_iload_n hx hb dX6_set_6 rfl (lv_at hl 0 rfl) ?_
  refine lv_iconst (v := (-1)) hx hb dX6_set_7 (by decide +kernel) ?_
  refine lv_icmp_eq (tgt := 25) hx hb dX6_set_8 (by decide) (fun c_8 => ?_) (fun c_8 => ?_)
  · have hbf := pb_eq (by omega) c_8
    refine lv_iconst (v := (-1)) hx hb dX6_set_25 (by decide +kernel) ?_
    have hz : (bb && b3) = false := by
      cases hbb9 : bb with
      | false => rfl
      | true =>
        cases hb39 : b3 with
        | false => rfl
        | true =>
          have h9 := hb3.mp hb39
          first | exact absurd (hbf.symm.trans hbb9) (by decide) | exact absurd c_14 h9.1 | (exact absurd ((pk_lLT (by decide) hw1).mpr c_22) h9.2)
    rw [hz] at hret
    exact hret 26 ls H locs dX6_set_26 ⟨_, ⟨hM, fun _ => rfl, (fun h => by cases h)⟩, hP⟩ hS
  · have hbt := pb_ne c_8
    have hgd : goodT mt := (hbb.mp hbt).1
    have hg1 := hgd.1
    have hlq := low_q hgd
    have hle := low_ne hgd
    have e_1 : (bif bb then nI mt.2 else (-1)) = (nI (mt.2)) := by rw [hbt]; rfl
    have hl : lv_has ls 5 [(3, .int (nI (mt.2))), (0, .ref (b 0)), (1, .long (x))] := by rw [← e_1]; exact hl
    refine lv_lload_n hx hb dX6_set_11 rfl (lv_at hl 2 rfl) ?_
    refine lv_lconst (v := lN 0) hx hb dX6_set_12 (by decide +kernel) ?_
    refine W.lcmp hx hb dX6_set_13 ?_
    refine nz_lRlt (tgt := 25) hx hb dX6_set_14 (by decide) (fun c_14 => ?_) (fun c_14 => ?_)
    · refine lv_iconst (v := (-1)) hx hb dX6_set_25 (by decide +kernel) ?_
      have hz : (bb && b3) = false := by
        cases hbb9 : bb with
        | false => rfl
        | true =>
          cases hb39 : b3 with
          | false => rfl
          | true =>
            have h9 := hb3.mp hb39
            first | exact absurd (hbf.symm.trans hbb9) (by decide) | exact absurd c_14 h9.1 | (exact absurd ((pk_lLT (by decide) hw1).mpr c_22) h9.2)
      rw [hz] at hret
      exact hret 26 ls H locs dX6_set_26 ⟨_, ⟨hM, fun _ => rfl, (fun h => by cases h)⟩, hP⟩ hS
    · obtain ⟨w1, hw1, rfl⟩ := pk_lOf (show ¬ x < 0 from c_14)
      refine lv_lload_n hx hb dX6_set_17 rfl (lv_at hl 2 rfl) ?_
      refine lv_ldc2 (v := lN (1000000000000)) hx hb hown (hts (.constantLong RX6 80 (1000000000000)) (by decide +kernel)) dX6_set_18 ?_
      refine W.lcmp hx hb dX6_set_21 ?_
      refine nz_lle (a := w1) (b := 1000000000000) (tgt := 27) hx hb dX6_set_22 (by decide) (by omega) (by omega) (fun c_22 => ?_) (fun c_22 => ?_)
      · refine lv_aload_n hx hb dX6_set_27 rfl (lv_at hl 1 rfl) ?_
        refine lv_iconst (v := nI 0) hx hb dX6_set_28 (by decide +kernel) ?_
        refine lv_iload_n hx hb dX6_set_29 rfl (lv_at hl 0 rfl) ?_
        refine nz_callR (va_runV (As := [.int (nI (0)), .int (nI (mt.2))]) (rest := []) ⟨hx, hb, hml, hown, hts⟩ (mX6_find l D b cs (mt.1, 0) ml mr mk 0 mt.2 b1 r hM (by omega) hg1 hle (fun h => ⟨(hfn.1 h).1, (eqF_congr hlq).mpr (hfn.1 h).2⟩) (fun i h1 h2 z => hfn.2.1 i h1 h2 ((eqF_congr hlq).mp z))) (cwV 2 hts gX6_set_X6_find rfl rfl rfl (by decide +kernel) ⟨Nat.le_of_ble_eq_true rfl, Nat.le_of_ble_eq_true rfl⟩) (nz_preV (ci := 6) (q0 := 0) hK hP rfl rfl) rfl rfl hl.1 rfl (lv_room (Nat.le_of_ble_eq_true rfl)) dX6_set_30 ⟨Nat.zero_le _, Nat.zero_le _⟩) ?_
        refine lv_istore (lv' := [(4, .int (bif b1 then nI r else (-1))), (3, .int (nI (mt.2))), (0, .ref (b 0)), (1, .long (lN (w1)))]) hx hb dX6_set_33 hl (by decide) rfl (fun ls hl => ?_)
        refine lv_iload hx hb dX6_set_35 (lv_at hl 0 rfl) ?_
        refine lv_if_lt (tgt := 50) hx hb dX6_set_37 (by decide) (fun c_37 => ?_) (fun c_37 => ?_)
        · have hb1f := pb_neg (by omega) c_37
          refine lv_aload_n hx hb dX6_set_50 rfl (lv_at hl 2 rfl) ?_
          refine lv_iconst (v := nI 0) hx hb dX6_set_51 (by decide +kernel) ?_
          refine lv_iload_n hx hb dX6_set_52 rfl (lv_at hl 1 rfl) ?_
          refine lv_lload_n hx hb dX6_set_53 rfl (lv_at hl 3 rfl) ?_
          have hpl := hfn.2.2 hb1f
          refine nz_callW (va_runV (As := [.int (nI (0)), .int (nI (mt.2)), .long (lN (w1))]) (rest := []) ⟨hx, hb, hml, hown, hts⟩ (mX6_add l D b cs (mt.1, 0) ml mr mk 0 mt.2 w1 r b2 hb2 hM (by omega) hg1 hle (by omega) hpl.1 (fun i hi => ltF_congr (fun _ _ => rfl) (fun j hj => (hlq j hj).symm) (hpl.2.1 i hi)) (fun i h1 h2 => ltF_congr (fun j hj => (hlq j hj).symm) (fun _ _ => rfl) (hpl.2.2 i h1 h2)) hb9) (cwV 3 hts gX6_set_X6_add rfl rfl rfl (by decide +kernel) ⟨Nat.le_of_ble_eq_true rfl, Nat.le_of_ble_eq_true rfl⟩) (nz_preV (ci := 6) (q0 := 0) hK hP rfl rfl) rfl rfl hl.1 rfl (lv_room (Nat.le_of_ble_eq_true rfl)) dX6_set_54 ⟨Nat.zero_le _, Nat.zero_le _⟩) hS (fun _ h => h) (fun H locs hP _ _ hS => ?_)
          obtain ⟨ml9_2, hml9, hP⟩ := hP
          refine lv_if_lt (tgt := 64) hx hb dX6_set_57 (by decide) (fun c_57 => ?_) (fun c_57 => ?_)
          · refine lv_bipush (v := (-2)) hx hb dX6_set_64 (by decide +kernel) ?_
            have hb39 : b3 = true := hb3.mpr ⟨c_14, fun z => absurd ((pk_lLT (by decide) hw1).mp z) (by omega)⟩
            subst hb39
            subst hbt
            rw [lW_lN hw1] at hret
            subst hb1f
            have hbv := pb_neg (by have := hpl.1; omega) c_57
            subst hbv
            exact hret 66 ls H locs dX6_set_66 ⟨_, ⟨hml9.1, (fun h => by cases h), fun _ => ⟨(fun h => by cases h), fun _ => ⟨(fun h => by cases h), fun _ => hml9.2.2 rfl⟩⟩⟩, hP⟩ hS
          · refine lv_iconst (v := nI 1) hx hb dX6_set_60 (by decide +kernel) ?_
            refine lv_goto (tgt := 66) hx hb dX6_set_61 (by decide) ?_
            have hb39 : b3 = true := hb3.mpr ⟨c_14, fun z => absurd ((pk_lLT (by decide) hw1).mp z) (by omega)⟩
            subst hb39
            subst hbt
            rw [lW_lN hw1] at hret
            subst hb1f
            have hbv := pb_pos c_57
            subst hbv
            have hvi := hml9.2.1 rfl
            exact hret 66 ls H locs dX6_set_66 ⟨_, ⟨hml9.1, (fun h => by cases h), fun _ => ⟨(fun h => by cases h), fun _ => ⟨fun _ => ⟨vins_congr hlq hvi.1, hvi.2⟩, (fun h => by cases h)⟩⟩⟩, hP⟩ hS
        · have hb1t := pb_pos c_37
          have hrc := (hfn.1 hb1t).1
          have e_3 : (bif b1 then nI r else (-1)) = (nI (r)) := by rw [hb1t]; rfl
          have hl : lv_has ls 5 [(4, .int (nI (r))), (3, .int (nI (mt.2))), (0, .ref (b 0)), (1, .long (lN (w1)))] := by rw [← e_3]; exact hl
          refine lv_aload_n hx hb dX6_set_40 rfl (lv_at hl 2 rfl) ?_
          refine va_get (D := D) (ci := 6) (v := .ref (b 4)) (C := RX6) (T := TX6) (N := 15) hx hb hts hinX6 hown hK hP 0 rfl rfl 6 (by decide) (hts (.fieldLink RX6 20 "TypoSuggesterModel" "weights" "[J") (by decide +kernel)) (fun _ h9 => h9) rfl dX6_set_41 ?_
          refine lv_iload hx hb dX6_set_44 (lv_at hl 0 rfl) ?_
          refine lv_lload_n hx hb dX6_set_46 rfl (lv_at hl 3 rfl) ?_
          refine nz_last (f := ml.2.2.1) (k := r) (v := w1) (ws' := wM b cs (mt.1, 0) (ml.1, ml.2.1, va_up ml.2.2.1 r w1, ml.2.2.2.1, ml.2.2.2.2) mr mk) hx hb hK hP (wM_D hb2) hS 4 2 rfl rfl (by omega) (by decide) dX6_set_47 rfl (fun H locs hP hS => ?_)
          refine lv_iconst (v := nI 0) hx hb dX6_set_48 (by decide +kernel) ?_
          have hb39 : b3 = true := hb3.mpr ⟨c_14, fun z => absurd ((pk_lLT (by decide) hw1).mp z) (by omega)⟩
          subst hb39
          subst hbt
          rw [lW_lN hw1] at hret
          subst hb1t
          exact hret 49 ls H locs dX6_set_49 ⟨_, ⟨mlB_set hM (by omega), (fun h => by cases h), fun _ => ⟨fun _ => rfl, (fun h => by cases h)⟩⟩, hP⟩ hS
      · refine lv_iconst (v := (-1)) hx hb dX6_set_25 (by decide +kernel) ?_
        have hz : (bb && b3) = false := by
          cases hbb9 : bb with
          | false => rfl
          | true =>
            cases hb39 : b3 with
            | false => rfl
            | true =>
              have h9 := hb3.mp hb39
              first | exact absurd (hbf.symm.trans hbb9) (by decide) | exact absurd c_14 h9.1 | (exact absurd ((pk_lLT (by decide) hw1).mpr c_22) h9.2)
        rw [hz] at hret
        exact hret 26 ls H locs dX6_set_26 ⟨_, ⟨hM, fun _ => rfl, (fun h => by cases h)⟩, hP⟩ hS
abbrev rmX6_drop : Room := { frames := 3, cells := 0, slots := 0, locals := 68 }
set_option maxHeartbeats 4000000 in
set_option maxRecDepth 100000 in
theorem mX6_drop (l : Launch) (D : va_G) (b : Nat → Nat) (cs : Nat → ClassId) (mt : (Nat → Int32) × Nat) (ml : (Nat → Nat) × (Nat → Nat) × (Nat → Nat) × Nat × Nat) (mr : (Nat → Nat) × (Nat → Nat) × (Nat → Nat) × (Nat → Nat) × Nat) (mk : (Nat → Bool) × (Nat → Nat) × (Nat → Nat)) (bb : Bool) (r : Nat) (b1 : Bool) (hb2 : wInjM b) (hM : MlB ml) (hT : mt.2 ≤ 400) (hbb : bb = true ↔ (goodT mt ∧ 0 < mt.2)) (hfn : FnM ml (qF mt) mt.2 b1 r) (hrb : r ≤ 600) (hcl : (bb && b1) = true → mt.2 ≤ ml.2.2.2.2) : Met l yX6_drop wsX6_drop rmX6_drop (wdP D vwCl (wM b cs mt ml mr mk) (tyX cs) [.ref (b 0)]) (wrQ (some (.long (bif (bb && b1) then lN (ml.2.2.1 r) else (-1)))) (fun H => ∃ ml9, (MlB ml9 ∧ ((bb && b1) = false → ml9 = ml) ∧ ((bb && b1) = true → VDel ml.2.2.2.1 r (ZM ml) (TM ml) ml.2.2.1 (ZM ml9) (TM ml9) ml9.2.2.1 ∧ ml9.2.2.2.1 = ml.2.2.2.1 - 1 ∧ ml9.2.2.2.2 = ml.2.2.2.2 - mt.2)) ∧ va_P D vwCl (wM b cs (mt.1, 0) ml9 mr mk) H) (inM b)) 0 0 (inM b) := by
  obtain ⟨hM1, hM2, hM3, hM4, hM5⟩ := id hM
  refine nz_metWl (by decide) rfl (Nat.le_of_ble_eq_true rfl) ?_
  intro p e s m args below meth c Q hx hb hml hts hown hP hK hret ls hl
  have hl : lv_has ls 6 [(0, .ref (b 0))] := hl
  have hown : s.vm.findClass RX6 = some m.cls := hown
  have hinX6 : ∀ w ∈ u_ws RX6 TX6 15, w ∈ wsX6_drop := by decide +kernel
  have hS : va_S (inM b) s.heap s.heap [] := va_S.rf
  obtain ⟨H, hH⟩ : ∃ H, H = s.heap := ⟨_, rfl⟩
  obtain ⟨locs, hlocs⟩ : ∃ locs : List Loc, locs = [] := ⟨_, rfl⟩
  have hP : va_P D vwCl (wM b cs mt ml mr mk) H := hH ▸ hP
  have hS : va_S (inM b) s.heap H locs := by rw [hH, hlocs]; exact va_S.rf
  suffices hgo : W p l e rmX6_drop s m args below meth c H locs 0 0 Q (F0 m 0 ls []) by rw [hH, hlocs] at hgo; exact hgo
  clear hH hlocs
  refine lv_aload_n hx hb dX6_drop_0 rfl (lv_at hl 0 rfl) ?_
  refine lv_iconst (v := nI 1) hx hb dX6_drop_1 (by decide +kernel) ?_
  refine nz_callW (va_runV (As := [.int (nI (1))]) (rest := []) ⟨hx, hb, hml, hown, hts⟩ (mX6_taken l D b cs mt ml mr mk 1 bb hb2 hT (by omega) hbb) (cwV 1 hts gX6_drop_X6_taken rfl rfl rfl (by decide +kernel) ⟨Nat.le_of_ble_eq_true rfl, Nat.le_of_ble_eq_true rfl⟩) (nz_preV (ci := 6) (q0 := 0) hK hP rfl rfl) rfl rfl hl.1 rfl (lv_room (Nat.le_of_ble_eq_true rfl)) dX6_drop_2 ⟨Nat.zero_le _, Nat.zero_le _⟩) hS (fun _ h => h) (fun H locs hP _ _ hS => ?_)
  refine lv_istore_n (lv' := [(1, .int (bif bb then nI mt.2 else (-1))), (0, .ref (b 0))]) hx hb dX6_drop_5 rfl hl (by decide) rfl (fun ls hl => ?_)
  refine lv_iload_n hx hb dX6_drop_6 rfl (lv_at hl 0 rfl) ?_
  refine lv_iconst (v := (-1)) hx hb dX6_drop_7 (by decide +kernel) ?_
  refine lv_icmp_ne (tgt := 15) hx hb dX6_drop_8 (by decide) (fun c_8 => ?_) (fun c_8 => ?_)
  · have hbt := pb_ne c_8
    have hgd : goodT mt := (hbb.mp hbt).1
    have hg1 := hgd.1
    have hlq := low_q hgd
    have hle := low_ne hgd
    have e_1 : (bif bb then nI mt.2 else (-1)) = (nI (mt.2)) := by rw [hbt]; rfl
    have hl : lv_has ls 6 [(1, .int (nI (mt.2))), (0, .ref (b 0))] := by rw [← e_1]; exact hl
    refine lv_aload_n hx hb dX6_drop_15 rfl (lv_at hl 1 rfl) ?_
    refine lv_iconst (v := nI 0) hx hb dX6_drop_16 (by decide +kernel) ?_
    refine lv_iload_n hx hb dX6_drop_17 rfl (lv_at hl 0 rfl) ?_
    refine nz_callR (va_runV (As := [.int (nI (0)), .int (nI (mt.2))]) (rest := []) ⟨hx, hb, hml, hown, hts⟩ (mX6_find l D b cs (mt.1, 0) ml mr mk 0 mt.2 b1 r hM (by omega) hg1 hle (fun h => ⟨(hfn.1 h).1, (eqF_congr hlq).mpr (hfn.1 h).2⟩) (fun i h1 h2 z => hfn.2.1 i h1 h2 ((eqF_congr hlq).mp z))) (cwV 2 hts gX6_drop_X6_find rfl rfl rfl (by decide +kernel) ⟨Nat.le_of_ble_eq_true rfl, Nat.le_of_ble_eq_true rfl⟩) (nz_preV (ci := 6) (q0 := 0) hK hP rfl rfl) rfl rfl hl.1 rfl (lv_room (Nat.le_of_ble_eq_true rfl)) dX6_drop_18 ⟨Nat.zero_le _, Nat.zero_le _⟩) ?_
    refine lv_istore_n (lv' := [(2, .int (bif b1 then nI r else (-1))), (1, .int (nI (mt.2))), (0, .ref (b 0))]) hx hb dX6_drop_21 rfl hl (by decide) rfl (fun ls hl => ?_)
    refine lv_iload_n hx hb dX6_drop_22 rfl (lv_at hl 0 rfl) ?_
    refine lv_iconst (v := (-1)) hx hb dX6_drop_23 (by decide +kernel) ?_
    refine lv_icmp_ne (tgt := 31) hx hb dX6_drop_24 (by decide) (fun c_24 => ?_) (fun c_24 => ?_)
    · have hb1t := pb_ne c_24
      have hrc := (hfn.1 hb1t).1
      have hcl9 := hcl (by rw [hbt, hb1t]; rfl)
      have e_2 : (bif b1 then nI r else (-1)) = (nI (r)) := by rw [hb1t]; rfl
      have hl : lv_has ls 6 [(2, .int (nI (r))), (1, .int (nI (mt.2))), (0, .ref (b 0))] := by rw [← e_2]; exact hl
      refine lv_aload_n hx hb dX6_drop_31 rfl (lv_at hl 2 rfl) ?_
      refine va_get (D := D) (ci := 6) (v := .ref (b 4)) (C := RX6) (T := TX6) (N := 15) hx hb hts hinX6 hown hK hP 0 rfl rfl 6 (by decide) (hts (.fieldLink RX6 20 "TypoSuggesterModel" "weights" "[J") (by decide +kernel)) (fun _ h9 => h9) rfl dX6_drop_32 ?_
      refine lv_iload_n hx hb dX6_drop_35 rfl (lv_at hl 0 rfl) ?_
      refine nz_lald (f := ml.2.2.1) (k := r) hx hb hK hP 4 2 rfl rfl (by omega) (by decide) dX6_drop_36 ?_
      refine lv_lstore_n (lv' := [(3, .long (lN (ml.2.2.1 r))), (2, .int (nI (r))), (1, .int (nI (mt.2))), (0, .ref (b 0))]) hx hb dX6_drop_37 rfl hl (by decide) rfl (fun ls hl => ?_)
      refine lv_aload_n hx hb dX6_drop_38 rfl (lv_at hl 3 rfl) ?_
      refine lv_dup hx hb dX6_drop_39 rfl ?_
      refine va_get (D := D) (ci := 6) (v := .int (nI (ml.2.2.2.2))) (C := RX6) (T := TX6) (N := 15) hx hb hts hinX6 hown hK hP 0 rfl rfl 3 (by decide) (hts (.fieldLink RX6 61 "TypoSuggesterModel" "letterCount" "I") (by decide +kernel)) (fun _ h9 => h9) rfl dX6_drop_40 ?_
      refine lv_iload_n hx hb dX6_drop_43 rfl (lv_at hl 2 rfl) ?_
      refine nz_isub (a := ml.2.2.2.2) (b := mt.2) hx hb dX6_drop_44 (by omega) ?_
      refine nz_put (D := D) (ci := 6) (v := .int (nI (ml.2.2.2.2 - mt.2))) (ty := .int) (ws' := wM b cs (mt.1, 0) (ml.1, ml.2.1, ml.2.2.1, ml.2.2.2.1, ml.2.2.2.2 - mt.2) mr mk) (C := RX6) (T := TX6) (N := 15) hx hb hts hinX6 tyX6 tyX6_ok nmX6 hown hK hP (wM_D hb2) hS 0 rfl rfl 3 (by decide) (hts (.fieldLink RX6 61 "TypoSuggesterModel" "letterCount" "I") (by decide +kernel)) (fun _ h9 => h9) rfl (by decide +kernel) rfl rfl (Nat.le_of_ble_eq_true rfl) dX6_drop_45 rfl (fun H locs hP hS => ?_)
      refine lv_aload_n hx hb dX6_drop_48 rfl (lv_at hl 3 rfl) ?_
      refine lv_dup hx hb dX6_drop_49 rfl ?_
      refine va_get (D := D) (ci := 6) (v := .int (nI (ml.2.2.2.1))) (C := RX6) (T := TX6) (N := 15) hx hb hts hinX6 hown hK hP 0 rfl rfl 2 (by decide) (hts (.fieldLink RX6 46 "TypoSuggesterModel" "count" "I") (by decide +kernel)) (fun _ h9 => h9) rfl dX6_drop_50 ?_
      refine lv_iconst (v := nI 1) hx hb dX6_drop_53 (by decide +kernel) ?_
      refine nz_isub (a := ml.2.2.2.1) (b := 1) hx hb dX6_drop_54 (by omega) ?_
      refine nz_put (D := D) (ci := 6) (v := .int (nI (ml.2.2.2.1 - 1))) (ty := .int) (ws' := wM b cs (mt.1, 0) (ml.1, ml.2.1, ml.2.2.1, ml.2.2.2.1 - 1, ml.2.2.2.2 - mt.2) mr mk) (C := RX6) (T := TX6) (N := 15) hx hb hts hinX6 tyX6 tyX6_ok nmX6 hown hK hP (wM_D hb2) hS 0 rfl rfl 2 (by decide) (hts (.fieldLink RX6 46 "TypoSuggesterModel" "count" "I") (by decide +kernel)) (fun _ h9 => h9) rfl (by decide +kernel) rfl rfl (Nat.le_of_ble_eq_true rfl) dX6_drop_55 rfl (fun H locs hP hS => ?_)
      refine lv_iload_n hx hb dX6_drop_58 rfl (lv_at hl 1 rfl) ?_
      refine lv_istore (lv' := [(5, .int (nI (r))), (3, .long (lN (ml.2.2.1 r))), (2, .int (nI (r))), (1, .int (nI (mt.2))), (0, .ref (b 0))]) hx hb dX6_drop_59 hl (by decide) rfl (fun ls hl => ?_)
      have loop : ∀ (fuel : Nat) (k : Nat) (ml2 : (Nat → Nat) × (Nat → Nat) × (Nat → Nat) × Nat × Nat), (r ≤ k) → (k ≤ ml.2.2.2.1 - 1) → (DlM ml ml2 r k mt.2) → ml.2.2.2.1 - 1 - k < fuel → ∀ (H : Heap) (locs : List Loc), va_P D vwCl (wM b cs (mt.1, 0) ml2 mr mk) H → va_S (inM b) s.heap H locs → ∀ ls : Array Slot, lv_has ls 6 [(0, .ref (b 0)), (3, .long (lN (ml.2.2.1 r))), (5, .int (nI (k)))] → W p l e rmX6_drop s m args below meth c H locs 0 0 Q (F0 m 61 ls []) := by
        intro fuel
        induction fuel with
        | zero => intro k ml2 hk1 hk2 hdl hf; exact absurd hf (Nat.not_lt_zero _)
        | succ fuel ih =>
          intro k ml2 hk1 hk2 hdl hf H locs hP hS ls hl
          have hc2 := hdl.2.1
          refine lv_iload hx hb dX6_drop_61 (lv_at hl 2 rfl) ?_
          refine lv_aload_n hx hb dX6_drop_63 rfl (lv_at hl 0 rfl) ?_
          refine va_get (D := D) (ci := 6) (v := .int (nI (ml2.2.2.2.1))) (C := RX6) (T := TX6) (N := 15) hx hb hts hinX6 hown hK hP 0 rfl rfl 2 (by decide) (hts (.fieldLink RX6 46 "TypoSuggesterModel" "count" "I") (by decide +kernel)) (fun _ h9 => h9) rfl dX6_drop_64 ?_
          refine nz_cge (a := k) (b := ml2.2.2.2.1) (tgt := 86) hx hb dX6_drop_67 (by decide) (by omega) (by omega) (fun c_67 => ?_) (fun c_67 => ?_)
          · refine lv_lload_n hx hb dX6_drop_86 rfl (lv_at hl 1 rfl) ?_
            have hz : (bb && b1) = true := by rw [hbt, hb1t]; rfl
            rw [hz] at hret
            rw [show k = ml.2.2.2.1 - 1 by omega] at hdl
            exact hret 87 ls H locs dX6_drop_87 ⟨_, ⟨hdl.1, (fun h => by cases h), fun _ => ⟨dlM_view hM hdl, hdl.2.1, hdl.2.2.1⟩⟩, hP⟩ hS
          · refine lv_aload_n hx hb dX6_drop_70 rfl (lv_at hl 0 rfl) ?_
            refine lv_iload hx hb dX6_drop_71 (lv_at hl 2 rfl) ?_
            refine lv_iconst (v := nI 1) hx hb dX6_drop_73 (by decide +kernel) ?_
            refine nz_iadd (a := k) (b := 1) hx hb dX6_drop_74 ?_
            refine lv_iload hx hb dX6_drop_75 (lv_at hl 2 rfl) ?_
            refine nz_callW (va_runV (As := [.int (nI (k + 1)), .int (nI (k))]) (rest := []) ⟨hx, hb, hml, hown, hts⟩ (mX6_move l D b cs (mt.1, 0) ml2 mr mk (k + 1) k hb2 hdl.1 (by omega) (by omega) (by omega)) (cwV 2 hts gX6_drop_X6_move rfl rfl rfl (by decide +kernel) ⟨Nat.le_of_ble_eq_true rfl, Nat.le_of_ble_eq_true rfl⟩) (nz_preV (ci := 6) (q0 := 0) hK hP rfl rfl) rfl rfl hl.1 rfl (lv_room (Nat.le_of_ble_eq_true rfl)) dX6_drop_77 ⟨Nat.zero_le _, Nat.zero_le _⟩) hS (fun _ h => h) (fun H locs hP _ _ hS => ?_)
            refine lv_iinc (v := nI (k + 1)) (lv' := [(5, .int (nI (k + 1))), (0, .ref (b 0)), (3, .long (lN (ml.2.2.1 r)))]) hx hb dX6_drop_80 hl (k := 2) rfl (nz_inc1 _) (by decide) rfl (fun ls hl => ?_)
            refine lv_goto (tgt := 61) hx hb dX6_drop_83 (by decide) ?_
            exact ih (k + 1) ((va_cpy ml2.1 ml2.1 (24 * (k + 1)) (24 * k) 24, va_up ml2.2.1 k (ml2.2.1 (k + 1)), va_up ml2.2.2.1 k (ml2.2.2.1 (k + 1)), ml2.2.2.2.1, ml2.2.2.2.2)) (by omega) (by omega) (dlM_step hdl hk1) (by omega) H locs hP hS ls (lv_sub hl [1, 2, 0] rfl)
      exact loop (ml.2.2.2.1 - 1 - r + 1) r ((ml.1, ml.2.1, ml.2.2.1, ml.2.2.2.1 - 1, ml.2.2.2.2 - mt.2)) (Nat.le_refl _) (by omega) (⟨⟨by show ml.2.2.2.1 - 1 ≤ 600; omega, hM2, hM3, hM4, by show ml.2.2.2.2 - mt.2 ≤ 6000; omega⟩, rfl, rfl, fun i _ => ⟨rfl, fun _ _ => rfl, rfl⟩, fun i h1 h2 => absurd h2 (by omega), fun i _ => ⟨rfl, fun _ _ => rfl, rfl⟩⟩) (Nat.lt_succ_self _) H locs hP hS ls (lv_sub hl [4, 1, 0] rfl)
    · have hb1f := pb_eq (by omega) c_24
      refine lv_ldc2 (v := (-1)) hx hb hown (hts (.constantLong RX6 89 (-1)) (by decide +kernel)) dX6_drop_27 ?_
      have hz : (bb && b1) = false := by first | (rw [hbf]; rfl) | (rw [hb1f, Bool.and_false])
      rw [hz] at hret
      exact hret 30 ls H locs dX6_drop_30 ⟨_, ⟨hM, fun _ => rfl, (fun h => by cases h)⟩, hP⟩ hS
  · have hbf := pb_eq (by omega) c_8
    refine lv_iconst (v := (-1)) hx hb dX6_drop_11 (by decide +kernel) ?_
    refine lv_goto (tgt := 21) hx hb dX6_drop_12 (by decide) ?_
    refine lv_istore_n (lv' := [(2, .int ((-1))), (1, .int (bif bb then nI mt.2 else (-1))), (0, .ref (b 0))]) hx hb dX6_drop_21 rfl hl (by decide) rfl (fun ls hl => ?_)
    refine lv_iload_n hx hb dX6_drop_22 rfl (lv_at hl 0 rfl) ?_
    refine lv_iconst (v := (-1)) hx hb dX6_drop_23 (by decide +kernel) ?_
    refine lv_icmp_ne (tgt := 31) hx hb dX6_drop_24 (by decide) (fun h => absurd rfl h) (fun _ => ?_)
    refine lv_ldc2 (v := (-1)) hx hb hown (hts (.constantLong RX6 89 (-1)) (by decide +kernel)) dX6_drop_27 ?_
    have hz : (bb && b1) = false := by first | (rw [hbf]; rfl) | (rw [hb1f, Bool.and_false])
    rw [hz] at hret
    exact hret 30 ls H locs dX6_drop_30 ⟨_, ⟨hM, fun _ => rfl, (fun h => by cases h)⟩, hP⟩ hS
abbrev rmX6_weight : Room := { frames := 3, cells := 0, slots := 0, locals := 68 }
set_option maxHeartbeats 4000000 in
set_option maxRecDepth 100000 in
theorem mX6_weight (l : Launch) (D : va_G) (b : Nat → Nat) (cs : Nat → ClassId) (mt : (Nat → Int32) × Nat) (ml : (Nat → Nat) × (Nat → Nat) × (Nat → Nat) × Nat × Nat) (mr : (Nat → Nat) × (Nat → Nat) × (Nat → Nat) × (Nat → Nat) × Nat) (mk : (Nat → Bool) × (Nat → Nat) × (Nat → Nat)) (bb : Bool) (r : Nat) (b1 : Bool) (hb2 : wInjM b) (hM : MlB ml) (hT : mt.2 ≤ 400) (hbb : bb = true ↔ (goodT mt ∧ 0 < mt.2)) (hfn : FnM ml (qF mt) mt.2 b1 r) (hrb : r ≤ 600) : Met l yX6_weight wsX6_weight rmX6_weight (wdP D vwCl (wM b cs mt ml mr mk) (tyX cs) [.ref (b 0)]) (wrQ (some (.long (bif (bb && b1) then lN (ml.2.2.1 r) else (-1)))) (fun H => va_P D vwCl (wM b cs (mt.1, 0) ml mr mk) H) (inM b)) 0 0 (inM b) := by
  obtain ⟨hM1, hM2, hM3, hM4, hM5⟩ := id hM
  refine nz_metWl (by decide) rfl (Nat.le_of_ble_eq_true rfl) ?_
  intro p e s m args below meth c Q hx hb hml hts hown hP hK hret ls hl
  have hl : lv_has ls 3 [(0, .ref (b 0))] := hl
  have hown : s.vm.findClass RX6 = some m.cls := hown
  have hinX6 : ∀ w ∈ u_ws RX6 TX6 15, w ∈ wsX6_weight := by decide +kernel
  have hS : va_S (inM b) s.heap s.heap [] := va_S.rf
  obtain ⟨H, hH⟩ : ∃ H, H = s.heap := ⟨_, rfl⟩
  obtain ⟨locs, hlocs⟩ : ∃ locs : List Loc, locs = [] := ⟨_, rfl⟩
  have hP : va_P D vwCl (wM b cs mt ml mr mk) H := hH ▸ hP
  have hS : va_S (inM b) s.heap H locs := by rw [hH, hlocs]; exact va_S.rf
  suffices hgo : W p l e rmX6_weight s m args below meth c H locs 0 0 Q (F0 m 0 ls []) by rw [hH, hlocs] at hgo; exact hgo
  clear hH hlocs
  refine lv_aload_n hx hb dX6_weight_0 rfl (lv_at hl 0 rfl) ?_
  refine lv_iconst (v := nI 1) hx hb dX6_weight_1 (by decide +kernel) ?_
  refine nz_callW (va_runV (As := [.int (nI (1))]) (rest := []) ⟨hx, hb, hml, hown, hts⟩ (mX6_taken l D b cs mt ml mr mk 1 bb hb2 hT (by omega) hbb) (cwV 1 hts gX6_weight_X6_taken rfl rfl rfl (by decide +kernel) ⟨Nat.le_of_ble_eq_true rfl, Nat.le_of_ble_eq_true rfl⟩) (nz_preV (ci := 6) (q0 := 0) hK hP rfl rfl) rfl rfl hl.1 rfl (lv_room (Nat.le_of_ble_eq_true rfl)) dX6_weight_2 ⟨Nat.zero_le _, Nat.zero_le _⟩) hS (fun _ h => h) (fun H locs hP _ _ hS => ?_)
  refine lv_istore_n (lv' := [(1, .int (bif bb then nI mt.2 else (-1))), (0, .ref (b 0))]) hx hb dX6_weight_5 rfl hl (by decide) rfl (fun ls hl => ?_)
  refine lv_iload_n hx hb dX6_weight_6 rfl (lv_at hl 0 rfl) ?_
  refine lv_iconst (v := (-1)) hx hb dX6_weight_7 (by decide +kernel) ?_
  refine lv_icmp_ne (tgt := 15) hx hb dX6_weight_8 (by decide) (fun c_8 => ?_) (fun c_8 => ?_)
  · have hbt := pb_ne c_8
    have hgd : goodT mt := (hbb.mp hbt).1
    have hg1 := hgd.1
    have hlq := low_q hgd
    have hle := low_ne hgd
    have e_1 : (bif bb then nI mt.2 else (-1)) = (nI (mt.2)) := by rw [hbt]; rfl
    have hl : lv_has ls 3 [(1, .int (nI (mt.2))), (0, .ref (b 0))] := by rw [← e_1]; exact hl
    refine lv_aload_n hx hb dX6_weight_15 rfl (lv_at hl 1 rfl) ?_
    refine lv_iconst (v := nI 0) hx hb dX6_weight_16 (by decide +kernel) ?_
    refine lv_iload_n hx hb dX6_weight_17 rfl (lv_at hl 0 rfl) ?_
    refine nz_callR (va_runV (As := [.int (nI (0)), .int (nI (mt.2))]) (rest := []) ⟨hx, hb, hml, hown, hts⟩ (mX6_find l D b cs (mt.1, 0) ml mr mk 0 mt.2 b1 r hM (by omega) hg1 hle (fun h => ⟨(hfn.1 h).1, (eqF_congr hlq).mpr (hfn.1 h).2⟩) (fun i h1 h2 z => hfn.2.1 i h1 h2 ((eqF_congr hlq).mp z))) (cwV 2 hts gX6_weight_X6_find rfl rfl rfl (by decide +kernel) ⟨Nat.le_of_ble_eq_true rfl, Nat.le_of_ble_eq_true rfl⟩) (nz_preV (ci := 6) (q0 := 0) hK hP rfl rfl) rfl rfl hl.1 rfl (lv_room (Nat.le_of_ble_eq_true rfl)) dX6_weight_18 ⟨Nat.zero_le _, Nat.zero_le _⟩) ?_
    refine lv_istore_n (lv' := [(2, .int (bif b1 then nI r else (-1))), (1, .int (nI (mt.2))), (0, .ref (b 0))]) hx hb dX6_weight_21 rfl hl (by decide) rfl (fun ls hl => ?_)
    refine lv_iload_n hx hb dX6_weight_22 rfl (lv_at hl 0 rfl) ?_
    refine lv_iconst (v := (-1)) hx hb dX6_weight_23 (by decide +kernel) ?_
    refine lv_icmp_ne (tgt := 33) hx hb dX6_weight_24 (by decide) (fun c_24 => ?_) (fun c_24 => ?_)
    · have hb1t := pb_ne c_24
      have hrc := (hfn.1 hb1t).1
      have e_2 : (bif b1 then nI r else (-1)) = (nI (r)) := by rw [hb1t]; rfl
      have hl : lv_has ls 3 [(2, .int (nI (r))), (1, .int (nI (mt.2))), (0, .ref (b 0))] := by rw [← e_2]; exact hl
      refine lv_aload_n hx hb dX6_weight_33 rfl (lv_at hl 2 rfl) ?_
      refine va_get (D := D) (ci := 6) (v := .ref (b 4)) (C := RX6) (T := TX6) (N := 15) hx hb hts hinX6 hown hK hP 0 rfl rfl 6 (by decide) (hts (.fieldLink RX6 20 "TypoSuggesterModel" "weights" "[J") (by decide +kernel)) (fun _ h9 => h9) rfl dX6_weight_34 ?_
      refine lv_iload_n hx hb dX6_weight_37 rfl (lv_at hl 0 rfl) ?_
      refine nz_lald (f := ml.2.2.1) (k := r) hx hb hK hP 4 2 rfl rfl (by omega) (by decide) dX6_weight_38 ?_
      have hz : (bb && b1) = true := by rw [hbt, hb1t]; rfl
      rw [hz] at hret
      exact hret 39 ls H locs dX6_weight_39 hP hS
    · have hb1f := pb_eq (by omega) c_24
      refine lv_ldc2 (v := (-1)) hx hb hown (hts (.constantLong RX6 89 (-1)) (by decide +kernel)) dX6_weight_27 ?_
      refine lv_goto (tgt := 39) hx hb dX6_weight_30 (by decide) ?_
      have hz : (bb && b1) = false := by first | (rw [hbf]; rfl) | (rw [hb1f, Bool.and_false])
      rw [hz] at hret
      exact hret 39 ls H locs dX6_weight_39 hP hS
  · have hbf := pb_eq (by omega) c_8
    refine lv_iconst (v := (-1)) hx hb dX6_weight_11 (by decide +kernel) ?_
    refine lv_goto (tgt := 21) hx hb dX6_weight_12 (by decide) ?_
    refine lv_istore_n (lv' := [(2, .int ((-1))), (1, .int (bif bb then nI mt.2 else (-1))), (0, .ref (b 0))]) hx hb dX6_weight_21 rfl hl (by decide) rfl (fun ls hl => ?_)
    refine lv_iload_n hx hb dX6_weight_22 rfl (lv_at hl 0 rfl) ?_
    refine lv_iconst (v := (-1)) hx hb dX6_weight_23 (by decide +kernel) ?_
    refine lv_icmp_ne (tgt := 33) hx hb dX6_weight_24 (by decide) (fun h => absurd rfl h) (fun _ => ?_)
    refine lv_ldc2 (v := (-1)) hx hb hown (hts (.constantLong RX6 89 (-1)) (by decide +kernel)) dX6_weight_27 ?_
    refine lv_goto (tgt := 39) hx hb dX6_weight_30 (by decide) ?_
    have hz : (bb && b1) = false := by first | (rw [hbf]; rfl) | (rw [hb1f, Bool.and_false])
    rw [hz] at hret
    exact hret 39 ls H locs dX6_weight_39 hP hS
abbrev rmX6_rank : Room := { frames := 3, cells := 0, slots := 0, locals := 68 }
set_option maxHeartbeats 4000000 in
set_option maxRecDepth 100000 in
theorem mX6_rank (l : Launch) (D : va_G) (b : Nat → Nat) (cs : Nat → ClassId) (mt : (Nat → Int32) × Nat) (ml : (Nat → Nat) × (Nat → Nat) × (Nat → Nat) × Nat × Nat) (mr : (Nat → Nat) × (Nat → Nat) × (Nat → Nat) × (Nat → Nat) × Nat) (mk : (Nat → Bool) × (Nat → Nat) × (Nat → Nat)) (bb : Bool) (r : Nat) (b1 : Bool) (hb2 : wInjM b) (hM : MlB ml) (hT : mt.2 ≤ 400) (hbb : bb = true ↔ (goodT mt ∧ 0 < mt.2)) (hfn : FnM ml (qF mt) mt.2 b1 r) (hrb : r ≤ 600) : Met l yX6_rank wsX6_rank rmX6_rank (wdP D vwCl (wM b cs mt ml mr mk) (tyX cs) [.ref (b 0)]) (wrQ (some (.int (bif (bb && b1) then nI (cntF (fun j => decide (ml.2.2.1 r < ml.2.2.1 j ∨ (ml.2.2.1 j = ml.2.2.1 r ∧ j < r))) ml.2.2.2.1) else (-1)))) (fun H => va_P D vwCl (wM b cs (mt.1, 0) ml mr mk) H) (inM b)) 0 0 (inM b) := by
  obtain ⟨hM1, hM2, hM3, hM4, hM5⟩ := id hM
  refine nz_metWi (by decide) rfl (Nat.le_of_ble_eq_true rfl) rfl ?_
  intro p e s m args below meth c Q hx hb hml hts hown hP hK hret ls hl
  have hl : lv_has ls 5 [(0, .ref (b 0))] := hl
  have hown : s.vm.findClass RX6 = some m.cls := hown
  have hinX6 : ∀ w ∈ u_ws RX6 TX6 15, w ∈ wsX6_rank := by decide +kernel
  have hS : va_S (inM b) s.heap s.heap [] := va_S.rf
  obtain ⟨H, hH⟩ : ∃ H, H = s.heap := ⟨_, rfl⟩
  obtain ⟨locs, hlocs⟩ : ∃ locs : List Loc, locs = [] := ⟨_, rfl⟩
  have hP : va_P D vwCl (wM b cs mt ml mr mk) H := hH ▸ hP
  have hS : va_S (inM b) s.heap H locs := by rw [hH, hlocs]; exact va_S.rf
  suffices hgo : W p l e rmX6_rank s m args below meth c H locs 0 0 Q (F0 m 0 ls []) by rw [hH, hlocs] at hgo; exact hgo
  clear hH hlocs
  refine lv_aload_n hx hb dX6_rank_0 rfl (lv_at hl 0 rfl) ?_
  refine lv_iconst (v := nI 1) hx hb dX6_rank_1 (by decide +kernel) ?_
  refine nz_callW (va_runV (As := [.int (nI (1))]) (rest := []) ⟨hx, hb, hml, hown, hts⟩ (mX6_taken l D b cs mt ml mr mk 1 bb hb2 hT (by omega) hbb) (cwV 1 hts gX6_rank_X6_taken rfl rfl rfl (by decide +kernel) ⟨Nat.le_of_ble_eq_true rfl, Nat.le_of_ble_eq_true rfl⟩) (nz_preV (ci := 6) (q0 := 0) hK hP rfl rfl) rfl rfl hl.1 rfl (lv_room (Nat.le_of_ble_eq_true rfl)) dX6_rank_2 ⟨Nat.zero_le _, Nat.zero_le _⟩) hS (fun _ h => h) (fun H locs hP _ _ hS => ?_)
  refine lv_istore_n (lv' := [(1, .int (bif bb then nI mt.2 else (-1))), (0, .ref (b 0))]) hx hb dX6_rank_5 rfl hl (by decide) rfl (fun ls hl => ?_)
  refine lv_iload_n hx hb dX6_rank_6 rfl (lv_at hl 0 rfl) ?_
  refine lv_iconst (v := (-1)) hx hb dX6_rank_7 (by decide +kernel) ?_
  refine lv_icmp_ne (tgt := 15) hx hb dX6_rank_8 (by decide) (fun c_8 => ?_) (fun c_8 => ?_)
  · have hbt := pb_ne c_8
    have hgd : goodT mt := (hbb.mp hbt).1
    have hg1 := hgd.1
    have hlq := low_q hgd
    have hle := low_ne hgd
    have e_1 : (bif bb then nI mt.2 else (-1)) = (nI (mt.2)) := by rw [hbt]; rfl
    have hl : lv_has ls 5 [(1, .int (nI (mt.2))), (0, .ref (b 0))] := by rw [← e_1]; exact hl
    refine lv_aload_n hx hb dX6_rank_15 rfl (lv_at hl 1 rfl) ?_
    refine lv_iconst (v := nI 0) hx hb dX6_rank_16 (by decide +kernel) ?_
    refine lv_iload_n hx hb dX6_rank_17 rfl (lv_at hl 0 rfl) ?_
    refine nz_callR (va_runV (As := [.int (nI (0)), .int (nI (mt.2))]) (rest := []) ⟨hx, hb, hml, hown, hts⟩ (mX6_find l D b cs (mt.1, 0) ml mr mk 0 mt.2 b1 r hM (by omega) hg1 hle (fun h => ⟨(hfn.1 h).1, (eqF_congr hlq).mpr (hfn.1 h).2⟩) (fun i h1 h2 z => hfn.2.1 i h1 h2 ((eqF_congr hlq).mp z))) (cwV 2 hts gX6_rank_X6_find rfl rfl rfl (by decide +kernel) ⟨Nat.le_of_ble_eq_true rfl, Nat.le_of_ble_eq_true rfl⟩) (nz_preV (ci := 6) (q0 := 0) hK hP rfl rfl) rfl rfl hl.1 rfl (lv_room (Nat.le_of_ble_eq_true rfl)) dX6_rank_18 ⟨Nat.zero_le _, Nat.zero_le _⟩) ?_
    refine lv_istore_n (lv' := [(2, .int (bif b1 then nI r else (-1))), (1, .int (nI (mt.2))), (0, .ref (b 0))]) hx hb dX6_rank_21 rfl hl (by decide) rfl (fun ls hl => ?_)
    refine lv_iload_n hx hb dX6_rank_22 rfl (lv_at hl 0 rfl) ?_
    refine lv_iconst (v := (-1)) hx hb dX6_rank_23 (by decide +kernel) ?_
    refine lv_icmp_ne (tgt := 29) hx hb dX6_rank_24 (by decide) (fun c_24 => ?_) (fun c_24 => ?_)
    · have hb1t := pb_ne c_24
      have hrc := (hfn.1 hb1t).1
      have e_2 : (bif b1 then nI r else (-1)) = (nI (r)) := by rw [hb1t]; rfl
      have hl : lv_has ls 5 [(2, .int (nI (r))), (1, .int (nI (mt.2))), (0, .ref (b 0))] := by rw [← e_2]; exact hl
      refine lv_iconst (v := nI 0) hx hb dX6_rank_29 (by decide +kernel) ?_
      refine lv_istore_n (lv' := [(3, .int (nI (0))), (2, .int (nI (r))), (1, .int (nI (mt.2))), (0, .ref (b 0))]) hx hb dX6_rank_30 rfl hl (by decide) rfl (fun ls hl => ?_)
      refine lv_iconst (v := nI 0) hx hb dX6_rank_31 (by decide +kernel) ?_
      refine lv_istore (lv' := [(4, .int (nI (0))), (3, .int (nI (0))), (2, .int (nI (r))), (1, .int (nI (mt.2))), (0, .ref (b 0))]) hx hb dX6_rank_32 hl (by decide) rfl (fun ls hl => ?_)
      have loop : ∀ (fuel : Nat) (k : Nat), (k ≤ ml.2.2.2.1) → ml.2.2.2.1 - k < fuel → ∀ (H : Heap) (locs : List Loc), va_P D vwCl (wM b cs (mt.1, 0) ml mr mk) H → va_S (inM b) s.heap H locs → ∀ ls : Array Slot, lv_has ls 5 [(0, .ref (b 0)), (2, .int (nI (r))), (3, .int (nI (cntF (fun j => decide (ml.2.2.1 r < ml.2.2.1 j ∨ (ml.2.2.1 j = ml.2.2.1 r ∧ j < r))) k))), (4, .int (nI (k)))] → W p l e rmX6_rank s m args below meth c H locs 0 0 Q (F0 m 34 ls []) := by
        intro fuel
        induction fuel with
        | zero => intro k hk hf; exact absurd hf (Nat.not_lt_zero _)
        | succ fuel ih =>
          intro k hk hf H locs hP hS ls hl
          have hc := cntF_le (fun j => decide (ml.2.2.1 r < ml.2.2.1 j ∨ (ml.2.2.1 j = ml.2.2.1 r ∧ j < r))) k
          have hw1 := hM4 k
          have hw2 := hM4 r
          refine lv_iload hx hb dX6_rank_34 (lv_at hl 3 rfl) ?_
          refine lv_aload_n hx hb dX6_rank_36 rfl (lv_at hl 0 rfl) ?_
          refine va_get (D := D) (ci := 6) (v := .int (nI (ml.2.2.2.1))) (C := RX6) (T := TX6) (N := 15) hx hb hts hinX6 hown hK hP 0 rfl rfl 2 (by decide) (hts (.fieldLink RX6 46 "TypoSuggesterModel" "count" "I") (by decide +kernel)) (fun _ h9 => h9) rfl dX6_rank_37 ?_
          refine nz_cge (a := k) (b := ml.2.2.2.1) (tgt := 97) hx hb dX6_rank_40 (by decide) (by omega) (by omega) (fun c_40 => ?_) (fun c_40 => ?_)
          · refine lv_iload_n hx hb dX6_rank_97 rfl (lv_at hl 2 rfl) ?_
            have hz : (bb && b1) = true := by rw [hbt, hb1t]; rfl
            rw [hz] at hret
            rw [show k = ml.2.2.2.1 by omega]
            exact hret 98 ls H locs dX6_rank_98 hP hS
          · refine lv_iload_n hx hb dX6_rank_43 rfl (lv_at hl 2 rfl) ?_
            refine lv_aload_n hx hb dX6_rank_44 rfl (lv_at hl 0 rfl) ?_
            refine va_get (D := D) (ci := 6) (v := .ref (b 4)) (C := RX6) (T := TX6) (N := 15) hx hb hts hinX6 hown hK hP 0 rfl rfl 6 (by decide) (hts (.fieldLink RX6 20 "TypoSuggesterModel" "weights" "[J") (by decide +kernel)) (fun _ h9 => h9) rfl dX6_rank_45 ?_
            refine lv_iload hx hb dX6_rank_48 (lv_at hl 3 rfl) ?_
            refine nz_lald (f := ml.2.2.1) (k := k) hx hb hK hP 4 2 rfl rfl (by omega) (by decide) dX6_rank_50 ?_
            refine lv_aload_n hx hb dX6_rank_51 rfl (lv_at hl 0 rfl) ?_
            refine va_get (D := D) (ci := 6) (v := .ref (b 4)) (C := RX6) (T := TX6) (N := 15) hx hb hts hinX6 hown hK hP 0 rfl rfl 6 (by decide) (hts (.fieldLink RX6 20 "TypoSuggesterModel" "weights" "[J") (by decide +kernel)) (fun _ h9 => h9) rfl dX6_rank_52 ?_
            refine lv_iload_n hx hb dX6_rank_55 rfl (lv_at hl 1 rfl) ?_
            refine nz_lald (f := ml.2.2.1) (k := r) hx hb hK hP 4 2 rfl rfl (by omega) (by decide) dX6_rank_56 ?_
            refine W.lcmp hx hb dX6_rank_57 ?_
            refine nz_lgt (a := ml.2.2.1 k) (b := ml.2.2.1 r) (tgt := 84) hx hb dX6_rank_58 (by decide) (by omega) (by omega) (fun c_58 => ?_) (fun c_58 => ?_)
            · refine lv_iconst (v := nI 1) hx hb dX6_rank_84 (by decide +kernel) ?_
              refine lv_goto (tgt := 89) hx hb dX6_rank_85 (by decide) ?_
              refine nz_iadd (a := cntF (fun j => decide (ml.2.2.1 r < ml.2.2.1 j ∨ (ml.2.2.1 j = ml.2.2.1 r ∧ j < r))) k) (b := 1) hx hb dX6_rank_89 ?_
              refine lv_istore_n (lv' := [(3, .int (nI (cntF (fun j => decide (ml.2.2.1 r < ml.2.2.1 j ∨ (ml.2.2.1 j = ml.2.2.1 r ∧ j < r))) k + 1))), (0, .ref (b 0)), (2, .int (nI (r))), (4, .int (nI (k)))]) hx hb dX6_rank_90 rfl hl (by decide) rfl (fun ls hl => ?_)
              have hstep : cntF (fun j => decide (ml.2.2.1 r < ml.2.2.1 j ∨ (ml.2.2.1 j = ml.2.2.1 r ∧ j < r))) (k + 1) = cntF (fun j => decide (ml.2.2.1 r < ml.2.2.1 j ∨ (ml.2.2.1 j = ml.2.2.1 r ∧ j < r))) k + 1 := cntF_t (by rw [decide_eq_true_iff]; omega)
              have e_3 : (nI (cntF (fun j => decide (ml.2.2.1 r < ml.2.2.1 j ∨ (ml.2.2.1 j = ml.2.2.1 r ∧ j < r))) k + 1)) = (nI (cntF (fun j => decide (ml.2.2.1 r < ml.2.2.1 j ∨ (ml.2.2.1 j = ml.2.2.1 r ∧ j < r))) (k + 1))) := by rw [hstep]
              have hl : lv_has ls 5 [(3, .int (nI (cntF (fun j => decide (ml.2.2.1 r < ml.2.2.1 j ∨ (ml.2.2.1 j = ml.2.2.1 r ∧ j < r))) (k + 1)))), (0, .ref (b 0)), (2, .int (nI (r))), (4, .int (nI (k)))] := by rw [← e_3]; exact hl
              refine lv_iinc (v := nI (k + 1)) (lv' := [(4, .int (nI (k + 1))), (3, .int (nI (cntF (fun j => decide (ml.2.2.1 r < ml.2.2.1 j ∨ (ml.2.2.1 j = ml.2.2.1 r ∧ j < r))) (k + 1)))), (0, .ref (b 0)), (2, .int (nI (r)))]) hx hb dX6_rank_91 hl (k := 3) rfl (nz_inc1 _) (by decide) rfl (fun ls hl => ?_)
              refine lv_goto (tgt := 34) hx hb dX6_rank_94 (by decide) ?_
              exact ih (k + 1) (by omega) (by omega) H locs hP hS ls (lv_sub hl [2, 3, 1, 0] rfl)
            · refine lv_aload_n hx hb dX6_rank_61 rfl (lv_at hl 0 rfl) ?_
              refine va_get (D := D) (ci := 6) (v := .ref (b 4)) (C := RX6) (T := TX6) (N := 15) hx hb hts hinX6 hown hK hP 0 rfl rfl 6 (by decide) (hts (.fieldLink RX6 20 "TypoSuggesterModel" "weights" "[J") (by decide +kernel)) (fun _ h9 => h9) rfl dX6_rank_62 ?_
              refine lv_iload hx hb dX6_rank_65 (lv_at hl 3 rfl) ?_
              refine nz_lald (f := ml.2.2.1) (k := k) hx hb hK hP 4 2 rfl rfl (by omega) (by decide) dX6_rank_67 ?_
              refine lv_aload_n hx hb dX6_rank_68 rfl (lv_at hl 0 rfl) ?_
              refine va_get (D := D) (ci := 6) (v := .ref (b 4)) (C := RX6) (T := TX6) (N := 15) hx hb hts hinX6 hown hK hP 0 rfl rfl 6 (by decide) (hts (.fieldLink RX6 20 "TypoSuggesterModel" "weights" "[J") (by decide +kernel)) (fun _ h9 => h9) rfl dX6_rank_69 ?_
              refine lv_iload_n hx hb dX6_rank_72 rfl (lv_at hl 1 rfl) ?_
              refine nz_lald (f := ml.2.2.1) (k := r) hx hb hK hP 4 2 rfl rfl (by omega) (by decide) dX6_rank_73 ?_
              refine W.lcmp hx hb dX6_rank_74 ?_
              refine nz_lne (a := ml.2.2.1 k) (b := ml.2.2.1 r) (tgt := 88) hx hb dX6_rank_75 (by decide) (by omega) (by omega) (fun c_75 => ?_) (fun c_75 => ?_)
              · refine lv_iconst (v := nI 0) hx hb dX6_rank_88 (by decide +kernel) ?_
                refine nz_iadd (a := cntF (fun j => decide (ml.2.2.1 r < ml.2.2.1 j ∨ (ml.2.2.1 j = ml.2.2.1 r ∧ j < r))) k) (b := 0) hx hb dX6_rank_89 ?_
                refine nz_top (y := nI (cntF (fun j => decide (ml.2.2.1 r < ml.2.2.1 j ∨ (ml.2.2.1 j = ml.2.2.1 r ∧ j < r))) k)) (by rfl) ?_
                refine lv_istore_n (lv' := [(3, .int (nI (cntF (fun j => decide (ml.2.2.1 r < ml.2.2.1 j ∨ (ml.2.2.1 j = ml.2.2.1 r ∧ j < r))) k))), (0, .ref (b 0)), (2, .int (nI (r))), (4, .int (nI (k)))]) hx hb dX6_rank_90 rfl hl (by decide) rfl (fun ls hl => ?_)
                have hstep : cntF (fun j => decide (ml.2.2.1 r < ml.2.2.1 j ∨ (ml.2.2.1 j = ml.2.2.1 r ∧ j < r))) (k + 1) = cntF (fun j => decide (ml.2.2.1 r < ml.2.2.1 j ∨ (ml.2.2.1 j = ml.2.2.1 r ∧ j < r))) k := cntF_f (by rw [decide_eq_false_iff_not]; omega)
                have e_4 : (nI (cntF (fun j => decide (ml.2.2.1 r < ml.2.2.1 j ∨ (ml.2.2.1 j = ml.2.2.1 r ∧ j < r))) k)) = (nI (cntF (fun j => decide (ml.2.2.1 r < ml.2.2.1 j ∨ (ml.2.2.1 j = ml.2.2.1 r ∧ j < r))) (k + 1))) := by rw [hstep]
                have hl : lv_has ls 5 [(3, .int (nI (cntF (fun j => decide (ml.2.2.1 r < ml.2.2.1 j ∨ (ml.2.2.1 j = ml.2.2.1 r ∧ j < r))) (k + 1)))), (0, .ref (b 0)), (2, .int (nI (r))), (4, .int (nI (k)))] := by rw [← e_4]; exact hl
                refine lv_iinc (v := nI (k + 1)) (lv' := [(4, .int (nI (k + 1))), (3, .int (nI (cntF (fun j => decide (ml.2.2.1 r < ml.2.2.1 j ∨ (ml.2.2.1 j = ml.2.2.1 r ∧ j < r))) (k + 1)))), (0, .ref (b 0)), (2, .int (nI (r)))]) hx hb dX6_rank_91 hl (k := 3) rfl (nz_inc1 _) (by decide) rfl (fun ls hl => ?_)
                refine lv_goto (tgt := 34) hx hb dX6_rank_94 (by decide) ?_
                exact ih (k + 1) (by omega) (by omega) H locs hP hS ls (lv_sub hl [2, 3, 1, 0] rfl)
              · refine lv_iload hx hb dX6_rank_78 (lv_at hl 3 rfl) ?_
                refine lv_iload_n hx hb dX6_rank_80 rfl (lv_at hl 1 rfl) ?_
                refine nz_cge (a := k) (b := r) (tgt := 88) hx hb dX6_rank_81 (by decide) (by omega) (by omega) (fun c_81 => ?_) (fun c_81 => ?_)
                · refine lv_iconst (v := nI 0) hx hb dX6_rank_88 (by decide +kernel) ?_
                  refine nz_iadd (a := cntF (fun j => decide (ml.2.2.1 r < ml.2.2.1 j ∨ (ml.2.2.1 j = ml.2.2.1 r ∧ j < r))) k) (b := 0) hx hb dX6_rank_89 ?_
                  refine nz_top (y := nI (cntF (fun j => decide (ml.2.2.1 r < ml.2.2.1 j ∨ (ml.2.2.1 j = ml.2.2.1 r ∧ j < r))) k)) (by rfl) ?_
                  refine lv_istore_n (lv' := [(3, .int (nI (cntF (fun j => decide (ml.2.2.1 r < ml.2.2.1 j ∨ (ml.2.2.1 j = ml.2.2.1 r ∧ j < r))) k))), (0, .ref (b 0)), (2, .int (nI (r))), (4, .int (nI (k)))]) hx hb dX6_rank_90 rfl hl (by decide) rfl (fun ls hl => ?_)
                  have hstep : cntF (fun j => decide (ml.2.2.1 r < ml.2.2.1 j ∨ (ml.2.2.1 j = ml.2.2.1 r ∧ j < r))) (k + 1) = cntF (fun j => decide (ml.2.2.1 r < ml.2.2.1 j ∨ (ml.2.2.1 j = ml.2.2.1 r ∧ j < r))) k := cntF_f (by rw [decide_eq_false_iff_not]; omega)
                  have e_5 : (nI (cntF (fun j => decide (ml.2.2.1 r < ml.2.2.1 j ∨ (ml.2.2.1 j = ml.2.2.1 r ∧ j < r))) k)) = (nI (cntF (fun j => decide (ml.2.2.1 r < ml.2.2.1 j ∨ (ml.2.2.1 j = ml.2.2.1 r ∧ j < r))) (k + 1))) := by rw [hstep]
                  have hl : lv_has ls 5 [(3, .int (nI (cntF (fun j => decide (ml.2.2.1 r < ml.2.2.1 j ∨ (ml.2.2.1 j = ml.2.2.1 r ∧ j < r))) (k + 1)))), (0, .ref (b 0)), (2, .int (nI (r))), (4, .int (nI (k)))] := by rw [← e_5]; exact hl
                  refine lv_iinc (v := nI (k + 1)) (lv' := [(4, .int (nI (k + 1))), (3, .int (nI (cntF (fun j => decide (ml.2.2.1 r < ml.2.2.1 j ∨ (ml.2.2.1 j = ml.2.2.1 r ∧ j < r))) (k + 1)))), (0, .ref (b 0)), (2, .int (nI (r)))]) hx hb dX6_rank_91 hl (k := 3) rfl (nz_inc1 _) (by decide) rfl (fun ls hl => ?_)
                  refine lv_goto (tgt := 34) hx hb dX6_rank_94 (by decide) ?_
                  exact ih (k + 1) (by omega) (by omega) H locs hP hS ls (lv_sub hl [2, 3, 1, 0] rfl)
                · refine lv_iconst (v := nI 1) hx hb dX6_rank_84 (by decide +kernel) ?_
                  refine lv_goto (tgt := 89) hx hb dX6_rank_85 (by decide) ?_
                  refine nz_iadd (a := cntF (fun j => decide (ml.2.2.1 r < ml.2.2.1 j ∨ (ml.2.2.1 j = ml.2.2.1 r ∧ j < r))) k) (b := 1) hx hb dX6_rank_89 ?_
                  refine lv_istore_n (lv' := [(3, .int (nI (cntF (fun j => decide (ml.2.2.1 r < ml.2.2.1 j ∨ (ml.2.2.1 j = ml.2.2.1 r ∧ j < r))) k + 1))), (0, .ref (b 0)), (2, .int (nI (r))), (4, .int (nI (k)))]) hx hb dX6_rank_90 rfl hl (by decide) rfl (fun ls hl => ?_)
                  have hstep : cntF (fun j => decide (ml.2.2.1 r < ml.2.2.1 j ∨ (ml.2.2.1 j = ml.2.2.1 r ∧ j < r))) (k + 1) = cntF (fun j => decide (ml.2.2.1 r < ml.2.2.1 j ∨ (ml.2.2.1 j = ml.2.2.1 r ∧ j < r))) k + 1 := cntF_t (by rw [decide_eq_true_iff]; omega)
                  have e_6 : (nI (cntF (fun j => decide (ml.2.2.1 r < ml.2.2.1 j ∨ (ml.2.2.1 j = ml.2.2.1 r ∧ j < r))) k + 1)) = (nI (cntF (fun j => decide (ml.2.2.1 r < ml.2.2.1 j ∨ (ml.2.2.1 j = ml.2.2.1 r ∧ j < r))) (k + 1))) := by rw [hstep]
                  have hl : lv_has ls 5 [(3, .int (nI (cntF (fun j => decide (ml.2.2.1 r < ml.2.2.1 j ∨ (ml.2.2.1 j = ml.2.2.1 r ∧ j < r))) (k + 1)))), (0, .ref (b 0)), (2, .int (nI (r))), (4, .int (nI (k)))] := by rw [← e_6]; exact hl
                  refine lv_iinc (v := nI (k + 1)) (lv' := [(4, .int (nI (k + 1))), (3, .int (nI (cntF (fun j => decide (ml.2.2.1 r < ml.2.2.1 j ∨ (ml.2.2.1 j = ml.2.2.1 r ∧ j < r))) (k + 1)))), (0, .ref (b 0)), (2, .int (nI (r)))]) hx hb dX6_rank_91 hl (k := 3) rfl (nz_inc1 _) (by decide) rfl (fun ls hl => ?_)
                  refine lv_goto (tgt := 34) hx hb dX6_rank_94 (by decide) ?_
                  exact ih (k + 1) (by omega) (by omega) H locs hP hS ls (lv_sub hl [2, 3, 1, 0] rfl)
      exact loop (ml.2.2.2.1 - 0 + 1) 0 (Nat.zero_le _) (Nat.lt_succ_self _) H locs hP hS ls (lv_sub hl [4, 2, 1, 0] rfl)
    · have hb1f := pb_eq (by omega) c_24
      refine lv_iconst (v := (-1)) hx hb dX6_rank_27 (by decide +kernel) ?_
      have hz : (bb && b1) = false := by first | (rw [hbf]; rfl) | (rw [hb1f, Bool.and_false])
      rw [hz] at hret
      exact hret 28 ls H locs dX6_rank_28 hP hS
  · have hbf := pb_eq (by omega) c_8
    refine lv_iconst (v := (-1)) hx hb dX6_rank_11 (by decide +kernel) ?_
    refine lv_goto (tgt := 21) hx hb dX6_rank_12 (by decide) ?_
    refine lv_istore_n (lv' := [(2, .int ((-1))), (1, .int (bif bb then nI mt.2 else (-1))), (0, .ref (b 0))]) hx hb dX6_rank_21 rfl hl (by decide) rfl (fun ls hl => ?_)
    refine lv_iload_n hx hb dX6_rank_22 rfl (lv_at hl 0 rfl) ?_
    refine lv_iconst (v := (-1)) hx hb dX6_rank_23 (by decide +kernel) ?_
    refine lv_icmp_ne (tgt := 29) hx hb dX6_rank_24 (by decide) (fun h => absurd rfl h) (fun _ => ?_)
    refine lv_iconst (v := (-1)) hx hb dX6_rank_27 (by decide +kernel) ?_
    have hz : (bb && b1) = false := by first | (rw [hbf]; rfl) | (rw [hb1f, Bool.and_false])
    rw [hz] at hret
    exact hret 28 ls H locs dX6_rank_28 hP hS
abbrev rmX6_nearnessOf : Room := { frames := 0, cells := 0, slots := 0, locals := 0 }
set_option maxHeartbeats 4000000 in
set_option maxRecDepth 100000 in
theorem mX6_nearnessOf (l : Launch) (D : va_G) (b : Nat → Nat) (cs : Nat → ClassId) (mt : (Nat → Int32) × Nat) (ml : (Nat → Nat) × (Nat → Nat) × (Nat → Nat) × Nat × Nat) (mr : (Nat → Nat) × (Nat → Nat) × (Nat → Nat) × (Nat → Nat) × Nat) (mk : (Nat → Bool) × (Nat → Nat) × (Nat → Nat)) (ti : Nat) (ln : Nat) (hb2 : wInjM b) (hM : MlB ml) (hti : ti < 600) (hln : ln ≤ 24) (hq : ∀ j, j < ln → smB (mt.1 j) = true) : Met l yX6_nearnessOf wsX6_nearnessOf rmX6_nearnessOf (wdP D vwCl (wM b cs mt ml mr mk) (tyX cs) [.ref (b 0), .int (nI (ti)), .int (nI (ln))]) (wrQ (some (.int (nI (nrF (qF mt) ln (TM ml ti) (ZM ml ti))))) (fun H => ∃ ro9, va_P D vwCl (wM b cs mt ml mr (mk.1, mk.2.1, ro9)) H) (inM b)) 0 0 (inM b) := by
  obtain ⟨hM1, hM2, hM3, hM4, hM5⟩ := id hM
  refine nz_metWi (by decide) rfl (Nat.le_of_ble_eq_true rfl) rfl ?_
  intro p e s m args below meth c Q hx hb hml hts hown hP hK hret ls hl
  have hl : lv_has ls 9 [(0, .ref (b 0)), (1, .int (nI (ti))), (2, .int (nI (ln)))] := hl
  have hown : s.vm.findClass RX6 = some m.cls := hown
  have hinX6 : ∀ w ∈ u_ws RX6 TX6 15, w ∈ wsX6_nearnessOf := by decide +kernel
  have hS : va_S (inM b) s.heap s.heap [] := va_S.rf
  obtain ⟨H, hH⟩ : ∃ H, H = s.heap := ⟨_, rfl⟩
  obtain ⟨locs, hlocs⟩ : ∃ locs : List Loc, locs = [] := ⟨_, rfl⟩
  have hP : va_P D vwCl (wM b cs mt ml mr mk) H := hH ▸ hP
  have hS : va_S (inM b) s.heap H locs := by rw [hH, hlocs]; exact va_S.rf
  suffices hgo : W p l e rmX6_nearnessOf s m args below meth c H locs 0 0 Q (F0 m 0 ls []) by rw [hH, hlocs] at hgo; exact hgo
  clear hH hlocs
  refine lv_iconst (v := nI 0) hx hb dX6_nearnessOf_0 (by decide +kernel) ?_
  refine lv_istore_n (lv' := [(3, .int (nI (0))), (0, .ref (b 0)), (1, .int (nI (ti))), (2, .int (nI (ln)))]) hx hb dX6_nearnessOf_1 rfl hl (by decide) rfl (fun ls hl => ?_)
  have hP : va_P D vwCl (wM b cs mt ml mr (mk.1, mk.2.1, mixR (fun x => x) mk.2.2 0)) H := by rw [mixR_0]; exact hP
  have loop : ∀ (fuel : Nat) (k : Nat), (k ≤ ln + 1) → ln + 1 - k < fuel → ∀ (H : Heap) (locs : List Loc), va_P D vwCl (wM b cs mt ml mr (mk.1, mk.2.1, mixR (fun x => x) mk.2.2 k)) H → va_S (inM b) s.heap H locs → ∀ ls : Array Slot, lv_has ls 9 [(0, .ref (b 0)), (1, .int (nI (ti))), (2, .int (nI (ln))), (3, .int (nI (k)))] → W p l e rmX6_nearnessOf s m args below meth c H locs 0 0 Q (F0 m 2 ls []) := by
    intro fuel
    induction fuel with
    | zero => intro k hk hf; exact absurd hf (Nat.not_lt_zero _)
    | succ fuel ih =>
      intro k hk hf H locs hP hS ls hl
      refine lv_iload_n hx hb dX6_nearnessOf_2 rfl (lv_at hl 3 rfl) ?_
      refine lv_iload_n hx hb dX6_nearnessOf_3 rfl (lv_at hl 2 rfl) ?_
      refine nz_cgt (a := k) (b := ln) (tgt := 20) hx hb dX6_nearnessOf_4 (by decide) (by omega) (by omega) (fun c_4 => ?_) (fun c_4 => ?_)
      · refine lv_aload_n hx hb dX6_nearnessOf_20 rfl (lv_at hl 0 rfl) ?_
        refine va_get (D := D) (ci := 6) (v := .ref (b 11)) (C := RX6) (T := TX6) (N := 15) hx hb hts hinX6 hown hK hP 0 rfl rfl 14 (by decide) (hts (.fieldLink RX6 43 "TypoSuggesterModel" "row" "[I") (by decide +kernel)) (fun _ h9 => h9) rfl dX6_nearnessOf_21 ?_
        refine lv_iload_n hx hb dX6_nearnessOf_24 rfl (lv_at hl 2 rfl) ?_
        refine nz_iald (f := mixR (fun x => x) mk.2.2 k) (k := ln) hx hb hK hP 11 1 rfl rfl (by omega) (by decide) dX6_nearnessOf_25 ?_
        refine lv_istore_n (lv' := [(3, .int (nI ((mixR (fun x => x) mk.2.2 k) ln))), (0, .ref (b 0)), (1, .int (nI (ti))), (2, .int (nI (ln)))]) hx hb dX6_nearnessOf_26 rfl hl (by decide) rfl (fun ls hl => ?_)
        have e_1 : (nI ((mixR (fun x => x) mk.2.2 k) ln)) = (nI (minR (fun x => rowsF (qF mt) (TM ml ti) x ln) 0)) := by rw [mixR_lt (by omega)]; rfl
        have hl : lv_has ls 9 [(3, .int (nI (minR (fun x => rowsF (qF mt) (TM ml ti) x ln) 0))), (0, .ref (b 0)), (1, .int (nI (ti))), (2, .int (nI (ln)))] := by rw [← e_1]; exact hl
        refine lv_iconst (v := nI 1) hx hb dX6_nearnessOf_27 (by decide +kernel) ?_
        refine lv_istore (lv' := [(4, .int (nI (1))), (3, .int (nI (minR (fun x => rowsF (qF mt) (TM ml ti) x ln) 0))), (0, .ref (b 0)), (1, .int (nI (ti))), (2, .int (nI (ln)))]) hx hb dX6_nearnessOf_28 hl (by decide) rfl (fun ls hl => ?_)
        have loop2 : ∀ (fuel : Nat) (j : Nat) (ro2 : Nat → Nat), (j ≤ ml.2.1 ti) → (∀ k, k ≤ ln → ro2 k = rowsF (qF mt) (TM ml ti) j k) → ml.2.1 ti - j < fuel → ∀ (H : Heap) (locs : List Loc), va_P D vwCl (wM b cs mt ml mr (mk.1, mk.2.1, ro2)) H → va_S (inM b) s.heap H locs → ∀ ls : Array Slot, lv_has ls 9 [(0, .ref (b 0)), (1, .int (nI (ti))), (2, .int (nI (ln))), (3, .int (nI (minR (fun x => rowsF (qF mt) (TM ml ti) x ln) j))), (4, .int (nI (j + 1)))] → W p l e rmX6_nearnessOf s m args below meth c H locs 0 0 Q (F0 m 30 ls []) := by
          intro fuel
          induction fuel with
          | zero => intro j ro2 hj hro2 hf; exact absurd hf (Nat.not_lt_zero _)
          | succ fuel ih2 =>
            intro j ro2 hj hro2 hf H locs hP hS ls hl
            have hz24 := hM2 ti
            have hst : ∀ k, k ≤ ln → stpR (qF mt) (ml.1 (24 * ti + j)) ro2 k = rowsF (qF mt) (TM ml ti) (j + 1) k := stpR_congr (fun _ _ => rfl) hro2
            have hrb : ∀ k, k ≤ ln → ro2 k ≤ 100 := fun k hk => by have := rows_le (qF mt) (TM ml ti) j k; rw [hro2 k hk]; omega
            have hb7 := minR_le (fun x => rowsF (qF mt) (TM ml ti) x ln) j 0 (Nat.zero_le _)
            have hb6 : rowsF (qF mt) (TM ml ti) 0 ln = ln := rfl
            refine lv_iload hx hb dX6_nearnessOf_30 (lv_at hl 4 rfl) ?_
            refine lv_aload_n hx hb dX6_nearnessOf_32 rfl (lv_at hl 0 rfl) ?_
            refine va_get (D := D) (ci := 6) (v := .ref (b 3)) (C := RX6) (T := TX6) (N := 15) hx hb hts hinX6 hown hK hP 0 rfl rfl 5 (by decide) (hts (.fieldLink RX6 16 "TypoSuggesterModel" "sizes" "[I") (by decide +kernel)) (fun _ h9 => h9) rfl dX6_nearnessOf_33 ?_
            refine lv_iload_n hx hb dX6_nearnessOf_36 rfl (lv_at hl 1 rfl) ?_
            refine nz_iald (f := ml.2.1) (k := ti) hx hb hK hP 3 1 rfl rfl (by omega) (by decide) dX6_nearnessOf_37 ?_
            refine nz_cgt (a := j + 1) (b := ml.2.1 ti) (tgt := 207) hx hb dX6_nearnessOf_38 (by decide) (by omega) (by omega) (fun c_38 => ?_) (fun c_38 => ?_)
            · refine lv_iload_n hx hb dX6_nearnessOf_207 rfl (lv_at hl 3 rfl) ?_
              rw [show j = ml.2.1 ti by omega]
              exact hret 208 ls H locs dX6_nearnessOf_208 ⟨_, hP⟩ hS
            · refine lv_aload_n hx hb dX6_nearnessOf_41 rfl (lv_at hl 0 rfl) ?_
              refine va_get (D := D) (ci := 6) (v := .ref (b 11)) (C := RX6) (T := TX6) (N := 15) hx hb hts hinX6 hown hK hP 0 rfl rfl 14 (by decide) (hts (.fieldLink RX6 43 "TypoSuggesterModel" "row" "[I") (by decide +kernel)) (fun _ h9 => h9) rfl dX6_nearnessOf_42 ?_
              refine lv_iconst (v := nI 0) hx hb dX6_nearnessOf_45 (by decide +kernel) ?_
              refine nz_iald (f := ro2) (k := 0) hx hb hK hP 11 1 rfl rfl (by omega) (by decide) dX6_nearnessOf_46 ?_
              refine lv_istore (lv' := [(5, .int (nI (ro2 0))), (0, .ref (b 0)), (1, .int (nI (ti))), (2, .int (nI (ln))), (3, .int (nI (minR (fun x => rowsF (qF mt) (TM ml ti) x ln) j))), (4, .int (nI (j + 1)))]) hx hb dX6_nearnessOf_47 hl (by decide) rfl (fun ls hl => ?_)
              refine lv_aload_n hx hb dX6_nearnessOf_49 rfl (lv_at hl 1 rfl) ?_
              refine va_get (D := D) (ci := 6) (v := .ref (b 11)) (C := RX6) (T := TX6) (N := 15) hx hb hts hinX6 hown hK hP 0 rfl rfl 14 (by decide) (hts (.fieldLink RX6 43 "TypoSuggesterModel" "row" "[I") (by decide +kernel)) (fun _ h9 => h9) rfl dX6_nearnessOf_50 ?_
              refine lv_iconst (v := nI 0) hx hb dX6_nearnessOf_53 (by decide +kernel) ?_
              refine lv_iload hx hb dX6_nearnessOf_54 (lv_at hl 5 rfl) ?_
              refine nz_iast (f := ro2) (k := 0) (v := j + 1) (ws' := wM b cs mt ml mr (mk.1, mk.2.1, va_up ro2 0 (j + 1))) hx hb hK hP (wM_D hb2) hS 11 1 rfl rfl (by omega) (by decide) dX6_nearnessOf_56 rfl (fun H locs hP hS => ?_)
              refine lv_iconst (v := nI 1) hx hb dX6_nearnessOf_57 (by decide +kernel) ?_
              refine lv_istore (lv' := [(6, .int (nI (1))), (5, .int (nI (ro2 0))), (0, .ref (b 0)), (1, .int (nI (ti))), (2, .int (nI (ln))), (3, .int (nI (minR (fun x => rowsF (qF mt) (TM ml ti) x ln) j))), (4, .int (nI (j + 1)))]) hx hb dX6_nearnessOf_58 hl (by decide) rfl (fun ls hl => ?_)
              have hz0 : j + 1 = stpR (qF mt) (ml.1 (24 * ti + j)) ro2 0 := by show j + 1 = ro2 0 + 1; rw [hro2 0 (Nat.zero_le _), rows_0]
              have hP : va_P D vwCl (wM b cs mt ml mr (mk.1, mk.2.1, mixR (stpR (qF mt) (ml.1 (24 * ti + j)) ro2) ro2 (0 + 1))) H := by rw [← mixR_step, mixR_0, ← hz0]; exact hP
              have loop3 : ∀ (fuel : Nat) (k : Nat), (k ≤ ln) → ln - k < fuel → ∀ (H : Heap) (locs : List Loc), va_P D vwCl (wM b cs mt ml mr (mk.1, mk.2.1, mixR (stpR (qF mt) (ml.1 (24 * ti + j)) ro2) ro2 (k + 1))) H → va_S (inM b) s.heap H locs → ∀ ls : Array Slot, lv_has ls 9 [(0, .ref (b 0)), (1, .int (nI (ti))), (2, .int (nI (ln))), (3, .int (nI (minR (fun x => rowsF (qF mt) (TM ml ti) x ln) j))), (4, .int (nI (j + 1))), (5, .int (nI (ro2 k))), (6, .int (nI (k + 1)))] → W p l e rmX6_nearnessOf s m args below meth c H locs 0 0 Q (F0 m 60 ls []) := by
                intro fuel
                induction fuel with
                | zero => intro k hk hf; exact absurd hf (Nat.not_lt_zero _)
                | succ fuel ih3 =>
                  intro k hk hf H locs hP hS ls hl
                  refine lv_iload hx hb dX6_nearnessOf_60 (lv_at hl 6 rfl) ?_
                  refine lv_iload_n hx hb dX6_nearnessOf_62 rfl (lv_at hl 2 rfl) ?_
                  refine nz_cgt (a := k + 1) (b := ln) (tgt := 180) hx hb dX6_nearnessOf_63 (by decide) (by omega) (by omega) (fun c_63 => ?_) (fun c_63 => ?_)
                  · have hkn : k = ln := by omega
                    rw [hkn] at hP
                    have e9 : mixR (stpR (qF mt) (ml.1 (24 * ti + j)) ro2) ro2 (ln + 1) ln = rowsF (qF mt) (TM ml ti) (j + 1) ln := by rw [mixR_lt (Nat.lt_succ_self _)]; exact hst _ (Nat.le_refl _)
                    have hb5 := rows_le (qF mt) (TM ml ti) (j + 1) ln
                    have join4 : ∀ (u : Nat), (u = minR (fun x => rowsF (qF mt) (TM ml ti) x ln) (j + 1)) → ∀ (H : Heap) (locs : List Loc), va_P D vwCl (wM b cs mt ml mr (mk.1, mk.2.1, mixR (stpR (qF mt) (ml.1 (24 * ti + j)) ro2) ro2 (ln + 1))) H → va_S (inM b) s.heap H locs → ∀ ls : Array Slot, lv_has ls 9 [(0, .ref (b 0)), (1, .int (nI (ti))), (2, .int (nI (ln))), (4, .int (nI (j + 1)))] → W p l e rmX6_nearnessOf s m args below meth c H locs 0 0 Q (F0 m 200 ls [.int (nI (u))]) := by
                      intro u hu9 H locs hP hS ls hl
                      refine lv_istore_n (lv' := [(3, .int (nI (u))), (0, .ref (b 0)), (1, .int (nI (ti))), (2, .int (nI (ln))), (4, .int (nI (j + 1)))]) hx hb dX6_nearnessOf_200 rfl hl (by decide) rfl (fun ls hl => ?_)
                      have e_2 : (nI (u)) = (nI (minR (fun x => rowsF (qF mt) (TM ml ti) x ln) (j + 1))) := by rw [hu9]
                      have hl : lv_has ls 9 [(3, .int (nI (minR (fun x => rowsF (qF mt) (TM ml ti) x ln) (j + 1)))), (0, .ref (b 0)), (1, .int (nI (ti))), (2, .int (nI (ln))), (4, .int (nI (j + 1)))] := by rw [← e_2]; exact hl
                      refine lv_iinc (v := nI (j + 1 + 1)) (lv' := [(4, .int (nI (j + 1 + 1))), (3, .int (nI (minR (fun x => rowsF (qF mt) (TM ml ti) x ln) (j + 1)))), (0, .ref (b 0)), (1, .int (nI (ti))), (2, .int (nI (ln)))]) hx hb dX6_nearnessOf_201 hl (k := 4) rfl (nz_inc1 _) (by decide) rfl (fun ls hl => ?_)
                      refine lv_goto (tgt := 30) hx hb dX6_nearnessOf_204 (by decide) ?_
                      exact ih2 (j + 1) (mixR (stpR (qF mt) (ml.1 (24 * ti + j)) ro2) ro2 (ln + 1)) (by omega) (fun k hk => by rw [mixR_lt (by omega)]; exact hst k hk) (by omega) H locs hP hS ls (lv_sub hl [2, 3, 4, 1, 0] rfl)
                    refine lv_aload_n hx hb dX6_nearnessOf_180 rfl (lv_at hl 0 rfl) ?_
                    refine va_get (D := D) (ci := 6) (v := .ref (b 11)) (C := RX6) (T := TX6) (N := 15) hx hb hts hinX6 hown hK hP 0 rfl rfl 14 (by decide) (hts (.fieldLink RX6 43 "TypoSuggesterModel" "row" "[I") (by decide +kernel)) (fun _ h9 => h9) rfl dX6_nearnessOf_181 ?_
                    refine lv_iload_n hx hb dX6_nearnessOf_184 rfl (lv_at hl 2 rfl) ?_
                    refine nz_iald (f := mixR (stpR (qF mt) (ml.1 (24 * ti + j)) ro2) ro2 (ln + 1)) (k := ln) hx hb hK hP 11 1 rfl rfl (by omega) (by decide) dX6_nearnessOf_185 ?_
                    refine lv_iload_n hx hb dX6_nearnessOf_186 rfl (lv_at hl 3 rfl) ?_
                    refine nz_cge (a := (mixR (stpR (qF mt) (ml.1 (24 * ti + j)) ro2) ro2 (ln + 1)) ln) (b := minR (fun x => rowsF (qF mt) (TM ml ti) x ln) j) (tgt := 199) hx hb dX6_nearnessOf_187 (by decide) (by omega) (by omega) (fun c_187 => ?_) (fun c_187 => ?_)
                    · refine lv_iload_n hx hb dX6_nearnessOf_199 rfl (lv_at hl 3 rfl) ?_
                      exact join4 (minR (fun x => rowsF (qF mt) (TM ml ti) x ln) j) (by show _ = min (minR (fun x => rowsF (qF mt) (TM ml ti) x ln) j) (rowsF (qF mt) (TM ml ti) (j + 1) ln); omega) H locs hP hS ls (lv_sub hl [0, 1, 2, 4] rfl)
                    · refine lv_aload_n hx hb dX6_nearnessOf_190 rfl (lv_at hl 0 rfl) ?_
                      refine va_get (D := D) (ci := 6) (v := .ref (b 11)) (C := RX6) (T := TX6) (N := 15) hx hb hts hinX6 hown hK hP 0 rfl rfl 14 (by decide) (hts (.fieldLink RX6 43 "TypoSuggesterModel" "row" "[I") (by decide +kernel)) (fun _ h9 => h9) rfl dX6_nearnessOf_191 ?_
                      refine lv_iload_n hx hb dX6_nearnessOf_194 rfl (lv_at hl 2 rfl) ?_
                      refine nz_iald (f := mixR (stpR (qF mt) (ml.1 (24 * ti + j)) ro2) ro2 (ln + 1)) (k := ln) hx hb hK hP 11 1 rfl rfl (by omega) (by decide) dX6_nearnessOf_195 ?_
                      refine lv_goto (tgt := 200) hx hb dX6_nearnessOf_196 (by decide) ?_
                      exact join4 ((mixR (stpR (qF mt) (ml.1 (24 * ti + j)) ro2) ro2 (ln + 1)) ln) (by show _ = min (minR (fun x => rowsF (qF mt) (TM ml ti) x ln) j) (rowsF (qF mt) (TM ml ti) (j + 1) ln); omega) H locs hP hS ls (lv_sub hl [0, 1, 2, 4] rfl)
                  · have hq9 := smB_q (hq k (by omega))
                    have hch : ml.1 (24 * ti + (j + 1) - 1) = ml.1 (24 * ti + j) := cg (by omega)
                    have join : ∀ (x : Nat), (x = ro2 k + (if qF mt k = ml.1 (24 * ti + j) then 0 else 1)) → ∀ (H : Heap) (locs : List Loc), va_P D vwCl (wM b cs mt ml mr (mk.1, mk.2.1, mixR (stpR (qF mt) (ml.1 (24 * ti + j)) ro2) ro2 (k + 1))) H → va_S (inM b) s.heap H locs → ∀ ls : Array Slot, lv_has ls 9 [(0, .ref (b 0)), (1, .int (nI (ti))), (2, .int (nI (ln))), (3, .int (nI (minR (fun x => rowsF (qF mt) (TM ml ti) x ln) j))), (4, .int (nI (j + 1))), (5, .int (nI (ro2 k))), (6, .int (nI (k + 1)))] → W p l e rmX6_nearnessOf s m args below meth c H locs 0 0 Q (F0 m 100 ls [.int (nI (x))]) := by
                      intro x hx9 H locs hP hS ls hl
                      have e1 : mixR (stpR (qF mt) (ml.1 (24 * ti + j)) ro2) ro2 (k + 1) (k + 1) = ro2 (k + 1) := mixR_ge (Nat.le_refl _)
                      have e2 : mixR (stpR (qF mt) (ml.1 (24 * ti + j)) ro2) ro2 (k + 1) (k + 1 - 1) = stpR (qF mt) (ml.1 (24 * ti + j)) ro2 k := mixR_lt (by omega)
                      have b1 := hrb (k + 1) (by omega)
                      have b2 := hrb k (by omega)
                      have b3 := stpR_le (qF mt) (ml.1 (24 * ti + j)) ro2 k
                      have b4 : x ≤ ro2 k + 1 := by rw [hx9]; split <;> omega
                      refine lv_istore (lv' := [(7, .int (nI (x))), (0, .ref (b 0)), (1, .int (nI (ti))), (2, .int (nI (ln))), (3, .int (nI (minR (fun x => rowsF (qF mt) (TM ml ti) x ln) j))), (4, .int (nI (j + 1))), (5, .int (nI (ro2 k))), (6, .int (nI (k + 1)))]) hx hb dX6_nearnessOf_100 hl (by decide) rfl (fun ls hl => ?_)
                      refine lv_aload_n hx hb dX6_nearnessOf_102 rfl (lv_at hl 1 rfl) ?_
                      refine va_get (D := D) (ci := 6) (v := .ref (b 11)) (C := RX6) (T := TX6) (N := 15) hx hb hts hinX6 hown hK hP 0 rfl rfl 14 (by decide) (hts (.fieldLink RX6 43 "TypoSuggesterModel" "row" "[I") (by decide +kernel)) (fun _ h9 => h9) rfl dX6_nearnessOf_103 ?_
                      refine lv_iload hx hb dX6_nearnessOf_106 (lv_at hl 7 rfl) ?_
                      refine nz_iald (f := mixR (stpR (qF mt) (ml.1 (24 * ti + j)) ro2) ro2 (k + 1)) (k := k + 1) hx hb hK hP 11 1 rfl rfl (by omega) (by decide) dX6_nearnessOf_108 ?_
                      refine lv_istore (lv' := [(5, .int (nI ((mixR (stpR (qF mt) (ml.1 (24 * ti + j)) ro2) ro2 (k + 1)) (k + 1)))), (7, .int (nI (x))), (0, .ref (b 0)), (1, .int (nI (ti))), (2, .int (nI (ln))), (3, .int (nI (minR (fun x => rowsF (qF mt) (TM ml ti) x ln) j))), (4, .int (nI (j + 1))), (6, .int (nI (k + 1)))]) hx hb dX6_nearnessOf_109 hl (by decide) rfl (fun ls hl => ?_)
                      have e_3 : (nI ((mixR (stpR (qF mt) (ml.1 (24 * ti + j)) ro2) ro2 (k + 1)) (k + 1))) = (nI (ro2 (k + 1))) := by rw [e1]
                      have hl : lv_has ls 9 [(5, .int (nI (ro2 (k + 1)))), (7, .int (nI (x))), (0, .ref (b 0)), (1, .int (nI (ti))), (2, .int (nI (ln))), (3, .int (nI (minR (fun x => rowsF (qF mt) (TM ml ti) x ln) j))), (4, .int (nI (j + 1))), (6, .int (nI (k + 1)))] := by rw [← e_3]; exact hl
                      have join2 : ∀ (y : Nat), (y = min (stpR (qF mt) (ml.1 (24 * ti + j)) ro2 k) (ro2 (k + 1))) → ∀ (H : Heap) (locs : List Loc), va_P D vwCl (wM b cs mt ml mr (mk.1, mk.2.1, mixR (stpR (qF mt) (ml.1 (24 * ti + j)) ro2) ro2 (k + 1))) H → va_S (inM b) s.heap H locs → ∀ ls : Array Slot, lv_has ls 9 [(0, .ref (b 0)), (1, .int (nI (ti))), (2, .int (nI (ln))), (3, .int (nI (minR (fun x => rowsF (qF mt) (TM ml ti) x ln) j))), (4, .int (nI (j + 1))), (5, .int (nI (ro2 (k + 1)))), (6, .int (nI (k + 1))), (7, .int (nI (x)))] → W p l e rmX6_nearnessOf s m args below meth c H locs 0 0 Q (F0 m 149 ls [.int (nI (y))]) := by
                        intro y hy9 H locs hP hS ls hl
                        refine lv_iconst (v := nI 1) hx hb dX6_nearnessOf_149 (by decide +kernel) ?_
                        refine nz_iadd (a := y) (b := 1) hx hb dX6_nearnessOf_150 ?_
                        refine lv_istore (lv' := [(8, .int (nI (y + 1))), (0, .ref (b 0)), (1, .int (nI (ti))), (2, .int (nI (ln))), (3, .int (nI (minR (fun x => rowsF (qF mt) (TM ml ti) x ln) j))), (4, .int (nI (j + 1))), (5, .int (nI (ro2 (k + 1)))), (6, .int (nI (k + 1))), (7, .int (nI (x)))]) hx hb dX6_nearnessOf_151 hl (by decide) rfl (fun ls hl => ?_)
                        have join3 : ∀ (z : Nat), (z = min x (y + 1)) → ∀ (H : Heap) (locs : List Loc), va_P D vwCl (wM b cs mt ml mr (mk.1, mk.2.1, mixR (stpR (qF mt) (ml.1 (24 * ti + j)) ro2) ro2 (k + 1))) H → va_S (inM b) s.heap H locs → ∀ ls : Array Slot, lv_has ls 9 [(0, .ref (b 0)), (1, .int (nI (ti))), (2, .int (nI (ln))), (3, .int (nI (minR (fun x => rowsF (qF mt) (TM ml ti) x ln) j))), (4, .int (nI (j + 1))), (5, .int (nI (ro2 (k + 1)))), (6, .int (nI (k + 1)))] → W p l e rmX6_nearnessOf s m args below meth c H locs 0 0 Q (F0 m 173 ls [.int (nI (z)), .int (nI (k + 1)), .ref (b 11)]) := by
                          intro z hz9 H locs hP hS ls hl
                          refine nz_iast (f := mixR (stpR (qF mt) (ml.1 (24 * ti + j)) ro2) ro2 (k + 1)) (k := k + 1) (v := z) (ws' := wM b cs mt ml mr (mk.1, mk.2.1, va_up (mixR (stpR (qF mt) (ml.1 (24 * ti + j)) ro2) ro2 (k + 1)) (k + 1) z)) hx hb hK hP (wM_D hb2) hS 11 1 rfl rfl (by omega) (by decide) dX6_nearnessOf_173 rfl (fun H locs hP hS => ?_)
                          have e_4 : va_up (mixR (stpR (qF mt) (ml.1 (24 * ti + j)) ro2) ro2 (k + 1)) (k + 1) z = mixR (stpR (qF mt) (ml.1 (24 * ti + j)) ro2) ro2 (k + 1 + 1) := by rw [hz9, hy9, hx9]; exact mixR_step _ _ _
                          rw [e_4] at hP
                          refine lv_iinc (v := nI (k + 1 + 1)) (lv' := [(6, .int (nI (k + 1 + 1))), (0, .ref (b 0)), (1, .int (nI (ti))), (2, .int (nI (ln))), (3, .int (nI (minR (fun x => rowsF (qF mt) (TM ml ti) x ln) j))), (4, .int (nI (j + 1))), (5, .int (nI (ro2 (k + 1))))]) hx hb dX6_nearnessOf_174 hl (k := 6) rfl (nz_inc1 _) (by decide) rfl (fun ls hl => ?_)
                          refine lv_goto (tgt := 60) hx hb dX6_nearnessOf_177 (by decide) ?_
                          exact ih3 (k + 1) (by omega) (by omega) H locs hP hS ls (lv_sub hl [1, 2, 3, 4, 5, 6, 0] rfl)
                        refine lv_aload_n hx hb dX6_nearnessOf_153 rfl (lv_at hl 1 rfl) ?_
                        refine va_get (D := D) (ci := 6) (v := .ref (b 11)) (C := RX6) (T := TX6) (N := 15) hx hb hts hinX6 hown hK hP 0 rfl rfl 14 (by decide) (hts (.fieldLink RX6 43 "TypoSuggesterModel" "row" "[I") (by decide +kernel)) (fun _ h9 => h9) rfl dX6_nearnessOf_154 ?_
                        refine lv_iload hx hb dX6_nearnessOf_157 (lv_at hl 7 rfl) ?_
                        refine lv_iload hx hb dX6_nearnessOf_159 (lv_at hl 8 rfl) ?_
                        refine lv_iload hx hb dX6_nearnessOf_161 (lv_at hl 0 rfl) ?_
                        refine nz_cge (a := x) (b := y + 1) (tgt := 171) hx hb dX6_nearnessOf_163 (by decide) (by omega) (by omega) (fun c_163 => ?_) (fun c_163 => ?_)
                        · refine lv_iload hx hb dX6_nearnessOf_171 (lv_at hl 0 rfl) ?_
                          exact join3 (y + 1) (by omega) H locs hP hS ls (lv_sub hl [1, 2, 3, 4, 5, 6, 7] rfl)
                        · refine lv_iload hx hb dX6_nearnessOf_166 (lv_at hl 8 rfl) ?_
                          refine lv_goto (tgt := 173) hx hb dX6_nearnessOf_168 (by decide) ?_
                          exact join3 x (by omega) H locs hP hS ls (lv_sub hl [1, 2, 3, 4, 5, 6, 7] rfl)
                      refine lv_aload_n hx hb dX6_nearnessOf_111 rfl (lv_at hl 2 rfl) ?_
                      refine va_get (D := D) (ci := 6) (v := .ref (b 11)) (C := RX6) (T := TX6) (N := 15) hx hb hts hinX6 hown hK hP 0 rfl rfl 14 (by decide) (hts (.fieldLink RX6 43 "TypoSuggesterModel" "row" "[I") (by decide +kernel)) (fun _ h9 => h9) rfl dX6_nearnessOf_112 ?_
                      refine lv_iload hx hb dX6_nearnessOf_115 (lv_at hl 7 rfl) ?_
                      refine nz_iald (f := mixR (stpR (qF mt) (ml.1 (24 * ti + j)) ro2) ro2 (k + 1)) (k := k + 1) hx hb hK hP 11 1 rfl rfl (by omega) (by decide) dX6_nearnessOf_117 ?_
                      refine lv_aload_n hx hb dX6_nearnessOf_118 rfl (lv_at hl 2 rfl) ?_
                      refine va_get (D := D) (ci := 6) (v := .ref (b 11)) (C := RX6) (T := TX6) (N := 15) hx hb hts hinX6 hown hK hP 0 rfl rfl 14 (by decide) (hts (.fieldLink RX6 43 "TypoSuggesterModel" "row" "[I") (by decide +kernel)) (fun _ h9 => h9) rfl dX6_nearnessOf_119 ?_
                      refine lv_iload hx hb dX6_nearnessOf_122 (lv_at hl 7 rfl) ?_
                      refine lv_iconst (v := nI 1) hx hb dX6_nearnessOf_124 (by decide +kernel) ?_
                      refine nz_isub (a := k + 1) (b := 1) hx hb dX6_nearnessOf_125 (by omega) ?_
                      refine nz_iald (f := mixR (stpR (qF mt) (ml.1 (24 * ti + j)) ro2) ro2 (k + 1)) (k := (k + 1) - 1) hx hb hK hP 11 1 rfl rfl (by omega) (by decide) dX6_nearnessOf_126 ?_
                      refine nz_cge (a := (mixR (stpR (qF mt) (ml.1 (24 * ti + j)) ro2) ro2 (k + 1)) (k + 1)) (b := (mixR (stpR (qF mt) (ml.1 (24 * ti + j)) ro2) ro2 (k + 1)) ((k + 1) - 1)) (tgt := 140) hx hb dX6_nearnessOf_127 (by decide) (by omega) (by omega) (fun c_127 => ?_) (fun c_127 => ?_)
                      · refine lv_aload_n hx hb dX6_nearnessOf_140 rfl (lv_at hl 2 rfl) ?_
                        refine va_get (D := D) (ci := 6) (v := .ref (b 11)) (C := RX6) (T := TX6) (N := 15) hx hb hts hinX6 hown hK hP 0 rfl rfl 14 (by decide) (hts (.fieldLink RX6 43 "TypoSuggesterModel" "row" "[I") (by decide +kernel)) (fun _ h9 => h9) rfl dX6_nearnessOf_141 ?_
                        refine lv_iload hx hb dX6_nearnessOf_144 (lv_at hl 7 rfl) ?_
                        refine lv_iconst (v := nI 1) hx hb dX6_nearnessOf_146 (by decide +kernel) ?_
                        refine nz_isub (a := k + 1) (b := 1) hx hb dX6_nearnessOf_147 (by omega) ?_
                        refine nz_iald (f := mixR (stpR (qF mt) (ml.1 (24 * ti + j)) ro2) ro2 (k + 1)) (k := (k + 1) - 1) hx hb hK hP 11 1 rfl rfl (by omega) (by decide) dX6_nearnessOf_148 ?_
                        exact join2 ((mixR (stpR (qF mt) (ml.1 (24 * ti + j)) ro2) ro2 (k + 1)) ((k + 1) - 1)) (by rw [e1] at *; rw [e2] at *; omega) H locs hP hS ls (lv_sub hl [2, 3, 4, 5, 6, 0, 7, 1] rfl)
                      · refine lv_aload_n hx hb dX6_nearnessOf_130 rfl (lv_at hl 2 rfl) ?_
                        refine va_get (D := D) (ci := 6) (v := .ref (b 11)) (C := RX6) (T := TX6) (N := 15) hx hb hts hinX6 hown hK hP 0 rfl rfl 14 (by decide) (hts (.fieldLink RX6 43 "TypoSuggesterModel" "row" "[I") (by decide +kernel)) (fun _ h9 => h9) rfl dX6_nearnessOf_131 ?_
                        refine lv_iload hx hb dX6_nearnessOf_134 (lv_at hl 7 rfl) ?_
                        refine nz_iald (f := mixR (stpR (qF mt) (ml.1 (24 * ti + j)) ro2) ro2 (k + 1)) (k := k + 1) hx hb hK hP 11 1 rfl rfl (by omega) (by decide) dX6_nearnessOf_136 ?_
                        refine lv_goto (tgt := 149) hx hb dX6_nearnessOf_137 (by decide) ?_
                        exact join2 ((mixR (stpR (qF mt) (ml.1 (24 * ti + j)) ro2) ro2 (k + 1)) (k + 1)) (by rw [e1] at *; rw [e2] at *; omega) H locs hP hS ls (lv_sub hl [2, 3, 4, 5, 6, 0, 7, 1] rfl)
                    refine lv_iload hx hb dX6_nearnessOf_66 (lv_at hl 5 rfl) ?_
                    refine lv_aload_n hx hb dX6_nearnessOf_68 rfl (lv_at hl 0 rfl) ?_
                    refine va_get (D := D) (ci := 6) (v := .ref (b 1)) (C := RX6) (T := TX6) (N := 15) hx hb hts hinX6 hown hK hP 0 rfl rfl 0 (by decide) (hts (.fieldLink RX6 7 "TypoSuggesterModel" "tape" "[B") (by decide +kernel)) (fun _ h9 => h9) rfl dX6_nearnessOf_69 ?_
                    refine lv_iload hx hb dX6_nearnessOf_72 (lv_at hl 6 rfl) ?_
                    refine lv_iconst (v := nI 1) hx hb dX6_nearnessOf_74 (by decide +kernel) ?_
                    refine nz_isub (a := k + 1) (b := 1) hx hb dX6_nearnessOf_75 (by omega) ?_
                    refine nz_baldR (f := mt.1) (k := (k + 1) - 1) hx hb hK hP 1 0 rfl rfl (by omega) (by decide) dX6_nearnessOf_76 ?_
                    refine lv_aload_n hx hb dX6_nearnessOf_77 rfl (lv_at hl 0 rfl) ?_
                    refine va_get (D := D) (ci := 6) (v := .ref (b 2)) (C := RX6) (T := TX6) (N := 15) hx hb hts hinX6 hown hK hP 0 rfl rfl 4 (by decide) (hts (.fieldLink RX6 13 "TypoSuggesterModel" "letters" "[B") (by decide +kernel)) (fun _ h9 => h9) rfl dX6_nearnessOf_78 ?_
                    refine lv_bipush (v := nI 24) hx hb dX6_nearnessOf_81 (by decide +kernel) ?_
                    refine lv_iload_n hx hb dX6_nearnessOf_83 rfl (lv_at hl 1 rfl) ?_
                    refine nz_imul (a := 24) (b := ti) hx hb dX6_nearnessOf_84 ?_
                    refine lv_iload hx hb dX6_nearnessOf_85 (lv_at hl 4 rfl) ?_
                    refine nz_iadd (a := 24 * ti) (b := j + 1) hx hb dX6_nearnessOf_87 ?_
                    refine nz_top (y := nI (24 * ti + (j + 1))) (by rfl) ?_
                    refine lv_iconst (v := nI 1) hx hb dX6_nearnessOf_88 (by decide +kernel) ?_
                    refine nz_isub (a := 24 * ti + (j + 1)) (b := 1) hx hb dX6_nearnessOf_89 (by omega) ?_
                    refine nz_bald (f := ml.1) (k := (24 * ti + (j + 1)) - 1) hx hb hK hP 2 0 rfl rfl (by omega) (by decide) dX6_nearnessOf_90 ?_
                    refine lv_icmp_ne (tgt := 98) hx hb dX6_nearnessOf_91 (by decide) (fun c_91 => ?_) (fun c_91 => ?_)
                    · have c_91 : ¬ qF mt k = ml.1 (24 * ti + j) := fun h => c_91 (by rw [hch, ← h]; exact hq9.1)
                      refine lv_iconst (v := nI 1) hx hb dX6_nearnessOf_98 (by decide +kernel) ?_
                      refine nz_iadd (a := ro2 k) (b := 1) hx hb dX6_nearnessOf_99 ?_
                      exact join (ro2 k + 1) (by rw [if_neg c_91]) H locs hP hS ls (lv_sub hl [0, 1, 2, 3, 4, 5, 6] rfl)
                    · have c_91 : qF mt k = ml.1 (24 * ti + j) := by
                        have h1 : nI (qF mt k) = nI (ml.1 (24 * ti + j)) := hq9.1.symm.trans (by rw [← hch]; exact c_91)
                        exact (nI_eq (by have h9 : qF mt k < 128 := hq9.2; omega) (by have := hM3 (24 * ti + j); omega)).mp h1
                      refine lv_iconst (v := nI 0) hx hb dX6_nearnessOf_94 (by decide +kernel) ?_
                      refine lv_goto (tgt := 99) hx hb dX6_nearnessOf_95 (by decide) ?_
                      refine nz_iadd (a := ro2 k) (b := 0) hx hb dX6_nearnessOf_99 ?_
                      refine nz_top (y := nI (ro2 k)) (by rfl) ?_
                      exact join (ro2 k) (by rw [if_pos c_91, Nat.add_zero]) H locs hP hS ls (lv_sub hl [0, 1, 2, 3, 4, 5, 6] rfl)
              exact loop3 (ln - 0 + 1) 0 (Nat.zero_le _) (Nat.lt_succ_self _) H locs hP hS ls (lv_sub hl [2, 3, 4, 5, 6, 1, 0] rfl)
        exact loop2 (ml.2.1 ti - 0 + 1) 0 (mixR (fun x => x) mk.2.2 k) (Nat.zero_le _) (fun x hx => mixR_lt (by omega)) (Nat.lt_succ_self _) H locs hP hS ls (lv_sub hl [2, 3, 4, 1, 0] rfl)
      · refine lv_aload_n hx hb dX6_nearnessOf_7 rfl (lv_at hl 0 rfl) ?_
        refine va_get (D := D) (ci := 6) (v := .ref (b 11)) (C := RX6) (T := TX6) (N := 15) hx hb hts hinX6 hown hK hP 0 rfl rfl 14 (by decide) (hts (.fieldLink RX6 43 "TypoSuggesterModel" "row" "[I") (by decide +kernel)) (fun _ h9 => h9) rfl dX6_nearnessOf_8 ?_
        refine lv_iload_n hx hb dX6_nearnessOf_11 rfl (lv_at hl 3 rfl) ?_
        refine lv_iload_n hx hb dX6_nearnessOf_12 rfl (lv_at hl 3 rfl) ?_
        refine nz_iast (f := mixR (fun x => x) mk.2.2 k) (k := k) (v := k) (ws' := wM b cs mt ml mr (mk.1, mk.2.1, va_up (mixR (fun x => x) mk.2.2 k) k k)) hx hb hK hP (wM_D hb2) hS 11 1 rfl rfl (by omega) (by decide) dX6_nearnessOf_13 rfl (fun H locs hP hS => ?_)
        have e_5 : va_up (mixR (fun x => x) mk.2.2 k) k k = mixR (fun x => x) mk.2.2 (k + 1) := mixR_step _ _ _
        rw [e_5] at hP
        refine lv_iinc (v := nI (k + 1)) (lv' := [(3, .int (nI (k + 1))), (0, .ref (b 0)), (1, .int (nI (ti))), (2, .int (nI (ln)))]) hx hb dX6_nearnessOf_14 hl (k := 3) rfl (nz_inc1 _) (by decide) rfl (fun ls hl => ?_)
        refine lv_goto (tgt := 2) hx hb dX6_nearnessOf_17 (by decide) ?_
        exact ih (k + 1) (by omega) (by omega) H locs hP hS ls (lv_sub hl [1, 2, 3, 0] rfl)
  exact loop (ln + 1 - 0 + 1) 0 (Nat.zero_le _) (Nat.lt_succ_self _) H locs hP hS ls (lv_sub hl [1, 2, 3, 0] rfl)
