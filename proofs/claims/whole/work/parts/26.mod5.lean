/-! The reference: ask. -/
section NZZ
variable {p : Program} {l : Launch} {e : Env} {R : Room} {s : State} {m : MethodId} {args : Array Value} {below : List Frame} {meth : Method} {c : Code} {H : Heap} {locs : List Loc} {cells slots : Nat} {Q : State → Prop}
variable {cc : ByteArray} {pc : Nat} {ls : Array Slot} {rest : List Value} {D : va_G} {cl : List vw_C} {A : Nat → Prop} {a : Nat} {tys : List (ClassId × FieldType)} {ws ws' : va_W} {H0 : Heap}
theorem nz_zald (hexec : p.tables.exec = Jvm.exec) (hb : c.code = cc) (hK : va_K D cl tys s) (hP : va_P D cl ws H) (q0 t0 : Nat) {cA : ClassId} {n : Nat} {f : Nat → Bool} (ha : ws[q0]? = some (a, .inl (cA, n, .inl (fun j => bI (f j))))) (ht : tys[t0]? = some (cA, .boolean)) {k : Nat} (hk : k < n) (hn : n < 2 ^ 31) (hdg : decode cc pc = .ok (.baload, 1))
    (kk : W p l e R s m args below meth c H locs cells slots Q (F0 m (pc + 1) ls (.int (bI (f k)) :: rest))) : W p l e R s m args below meth c H locs cells slots Q (F0 m pc ls (.int (nI k) :: .ref a :: rest)) := by
  refine va_zald hexec hb hK hP q0 t0 ha ht (vp_in_nI hk hn) hdg ?_
  rw [nI_clamp (Nat.lt_trans hk hn)]
  exact kk
theorem nz_zast (hexec : p.tables.exec = Jvm.exec) (hb : c.code = cc) (hK : va_K D cl tys s) (hP : va_P D cl ws H) (hD : va_D A ws) (hS : va_S A H0 H locs) (q0 t0 : Nat) {cA : ClassId} {n : Nat} {f : Nat → Bool} (ha : ws[q0]? = some (a, .inl (cA, n, .inl (fun j => bI (f j))))) (ht : tys[t0]? = some (cA, .boolean)) {k : Nat} {v : Bool} (hk : k < n) (hn : n < 2 ^ 31) (hdg : decode cc pc = .ok (.bastore, 1)) (hw : ws.set q0 (a, .inl (cA, n, .inl (fun j => bI (va_up f k v j)))) = ws')
    (kk : ∀ (H1 : Heap) (locs1 : List Loc), va_P D cl ws' H1 → va_S A H0 H1 locs1 → W p l e R s m args below meth c H1 locs1 cells slots Q (F0 m (pc + 1) ls rest)) : W p l e R s m args below meth c H locs cells slots Q (F0 m pc ls (.int (bI v) :: .int (nI k) :: .ref a :: rest)) := by
  refine va_zast hexec hb hK hP hD hS q0 t0 ha ht (vp_in_nI hk hn) hdg (fun H1 locs1 h1 _ h3 => kk H1 locs1 ?_ h3)
  have e1 : vp_nar .boolean (bI v) = bI v := by cases v <;> decide +kernel
  have e2 : upd (fun j => bI (f j)) k (bI v) = fun j => bI (va_up f k v j) := by
    funext j
    unfold upd va_up
    by_cases h : j = k <;> simp [h]
  rw [nI_clamp (Nat.lt_trans hk hn), e1, e2] at h1
  rw [← hw]
  exact h1
end NZZ
/-- pl 0 .. pl (c - 1) are chosen, the greatest first; tk tells what is chosen or not asked for -/
def Sel (n : Nat) (P : Nat → Bool) (V : Nat → Nat) (tk : Nat → Bool) (pl : Nat → Nat) (c : Nat) : Prop :=
  (∀ a, a < c → pl a < n ∧ P (pl a) = true) ∧ (∀ a b, a < b → b < c → bef V (pl a) (pl b)) ∧ (∀ i, i < n → (tk i = true ↔ (P i = false ∨ ∃ a, a < c ∧ pl a = i))) ∧ (∀ i, i < n → tk i = false → ∀ a, a < c → bef V (pl a) i)
theorem sel_0 {n : Nat} {P : Nat → Bool} {V : Nat → Nat} {tk : Nat → Bool} {pl : Nat → Nat} (h : ∀ i, i < n → tk i = !(P i)) : Sel n P V tk pl 0 :=
  ⟨fun a h => absurd h (Nat.not_lt_zero _), fun a b _ h => absurd h (Nat.not_lt_zero _), fun i hi => by
    rw [h i hi]
    cases hp : P i with
    | false => exact ⟨fun _ => Or.inl rfl, fun _ => rfl⟩
    | true => exact ⟨(fun z => by cases z), fun z => z.elim (fun y => by cases y) (fun ⟨a, ha, _⟩ => absurd ha (Nat.not_lt_zero _))⟩, fun i _ _ a h => absurd h (Nat.not_lt_zero _)⟩
theorem sel_step {n : Nat} {P : Nat → Bool} {V : Nat → Nat} {tk : Nat → Bool} {pl : Nat → Nat} {c bi : Nat} (h : Sel n P V tk pl c) (hb : bi < n) (ht : tk bi = false) (hm : ∀ i, i < n → tk i = false → i = bi ∨ bef V bi i) : Sel n P V (va_up tk bi true) (va_up pl c bi) (c + 1) := by
  obtain ⟨h1, h2, h3, h4⟩ := h
  have hpb : P bi = true := by
    cases hp : P bi with
    | true => rfl
    | false => rw [(h3 bi hb).mpr (Or.inl hp)] at ht; cases ht
  have e1 : ∀ a, a < c → va_up pl c bi a = pl a := fun a ha => if_neg (by omega)
  have e2 : va_up pl c bi c = bi := if_pos rfl
  refine ⟨fun a ha => ?_, fun a b hab hb2 => ?_, fun i hi => ?_, fun i hi hti a ha => ?_⟩
  · rcases Nat.lt_or_ge a c with z | z
    · rw [e1 a z]; exact h1 a z
    · rw [show a = c by omega, e2]; exact ⟨hb, hpb⟩
  · rcases Nat.lt_or_ge b c with z | z
    · rw [e1 b z, e1 a (by omega)]; exact h2 a b hab z
    · rw [show b = c by omega, e2, e1 a (by omega)]; exact h4 bi hb ht a (by omega)
  · unfold va_up
    by_cases e : i = bi
    · rw [if_pos e]
      exact ⟨fun _ => Or.inr ⟨c, Nat.lt_succ_self _, by rw [if_pos rfl, e]⟩, fun _ => rfl⟩
    · rw [if_neg e, h3 i hi]
      constructor
      · rintro (z | ⟨a, ha, q⟩)
        · exact Or.inl z
        · exact Or.inr ⟨a, by omega, by rw [if_neg (by omega)]; exact q⟩
      · rintro (z | ⟨a, ha, q⟩)
        · exact Or.inl z
        · rcases Nat.lt_or_ge a c with y | y
          · rw [if_neg (by omega)] at q
            exact Or.inr ⟨a, y, q⟩
          · rw [if_pos (by omega)] at q
            exact absurd q.symm e
  · have e : i ≠ bi := fun z => by
      unfold va_up at hti
      rw [if_pos z] at hti
      cases hti
    have hti : tk i = false := by
      unfold va_up at hti
      rw [if_neg e] at hti
      exact hti
    rcases Nat.lt_or_ge a c with z | z
    · rw [e1 a z]; exact h4 i hi hti a z
    · rw [show a = c by omega, e2]
      exact (hm i hi hti).resolve_left e
theorem sel_top {n : Nat} {P : Nat → Bool} {V : Nat → Nat} {tk : Nat → Bool} {pl : Nat → Nat} {c k : Nat} (h : Sel n P V tk pl c) (hc : c ≤ k) (he : (∀ i, i < n → tk i = true) ∨ c = k) : IsTop n P V k pl c := by
  obtain ⟨h1, h2, h3, h4⟩ := h
  refine ⟨hc, h1, h2, fun i hi hpi => ?_⟩
  cases ht : tk i with
  | true =>
    rcases (h3 i hi).mp ht with z | z
    · rw [z] at hpi; cases hpi
    · exact Or.inl z
  | false =>
    rcases he with z | z
    · rw [z i hi] at ht; cases ht
    · exact Or.inr ⟨z, h4 i hi ht⟩
/-- bi is the first of the greatest below k that is not taken, if there is one -/
def BestIs (V : Nat → Nat) (tk : Nat → Bool) (k : Nat) (hb : Bool) (bi : Nat) : Prop := (hb = false → ∀ i, i < k → tk i = true) ∧ (hb = true → bi < k ∧ tk bi = false ∧ ∀ i, i < k → tk i = false → i = bi ∨ bef V bi i)
theorem best_skip {V : Nat → Nat} {tk : Nat → Bool} {k : Nat} {hb : Bool} {bi : Nat} (h : BestIs V tk k hb bi) (ht : tk k = true) : BestIs V tk (k + 1) hb bi := by
  refine ⟨fun z i hi => ?_, fun z => ⟨Nat.lt_succ_of_lt (h.2 z).1, (h.2 z).2.1, fun i hi hti => ?_⟩⟩
  · rcases Nat.lt_or_ge i k with y | y
    · exact h.1 z i y
    · rw [show i = k by omega]; exact ht
  · rcases Nat.lt_or_ge i k with y | y
    · exact (h.2 z).2.2 i y hti
    · rw [show i = k by omega, ht] at hti; cases hti
theorem best_first {V : Nat → Nat} {tk : Nat → Bool} {k bi : Nat} (h : BestIs V tk k false bi) (ht : tk k = false) : BestIs V tk (k + 1) true k := by
  refine ⟨(fun z => by cases z), fun _ => ⟨Nat.lt_succ_self _, ht, fun i hi hti => ?_⟩⟩
  rcases Nat.lt_or_ge i k with y | y
  · rw [h.1 rfl i y] at hti; cases hti
  · exact Or.inl (by omega)
theorem best_new {V : Nat → Nat} {tk : Nat → Bool} {k bi : Nat} (h : BestIs V tk k true bi) (ht : tk k = false) (hw : V bi < V k) : BestIs V tk (k + 1) true k := by
  refine ⟨(fun z => by cases z), fun _ => ⟨Nat.lt_succ_self _, ht, fun i hi hti => ?_⟩⟩
  rcases Nat.lt_or_ge i k with y | y
  · rcases (h.2 rfl).2.2 i y hti with z | z
    · rw [z]; exact Or.inr (Or.inl hw)
    · refine Or.inr (Or.inl ?_)
      unfold bef at z
      omega
  · exact Or.inl (by omega)
theorem best_old {V : Nat → Nat} {tk : Nat → Bool} {k bi : Nat} (h : BestIs V tk k true bi) (hw : V k ≤ V bi) : BestIs V tk (k + 1) true bi := by
  refine ⟨(fun z => by cases z), fun _ => ⟨Nat.lt_succ_of_lt (h.2 rfl).1, (h.2 rfl).2.1, fun i hi hti => ?_⟩⟩
  rcases Nat.lt_or_ge i k with y | y
  · exact (h.2 rfl).2.2 i y hti
  · have h1 := (h.2 rfl).1
    refine Or.inr ?_
    rw [show i = k by omega]
    unfold bef
    omega
/-- the reference's result holds the rows pl 0 .. pl (c - 1) -/
def MrIs (ml : MlT) (g pl : Nat → Nat) (c : Nat) (mr : (Nat → Nat) × (Nat → Nat) × (Nat → Nat) × (Nat → Nat) × Nat) : Prop := mr.2.2.2.2 = c ∧ ∀ a, a < c → mr.2.1 a = ml.2.1 (pl a) ∧ mr.2.2.1 a = ml.2.2.1 (pl a) ∧ mr.2.2.2.1 a = g (pl a) ∧ ∀ j, j < 24 → mr.1 (24 * a + j) = ml.1 (24 * pl a + j)
theorem mrIs_step {ml : MlT} {g pl : Nat → Nat} {c bi v : Nat} {mr : (Nat → Nat) × (Nat → Nat) × (Nat → Nat) × (Nat → Nat) × Nat} (h : MrIs ml g pl c mr) (hv : v = g bi) : MrIs ml g (va_up pl c bi) (c + 1) (va_cpy ml.1 mr.1 (24 * bi) (24 * c) 24, va_up mr.2.1 c (ml.2.1 bi), va_up mr.2.2.1 c (ml.2.2.1 bi), va_up mr.2.2.2.1 c v, c + 1) := by
  refine ⟨rfl, fun a ha => ?_⟩
  rcases Nat.lt_or_ge a c with z | z
  · obtain ⟨q1, q2, q3, q4⟩ := h.2 a z
    rw [show va_up pl c bi a = pl a from if_neg (by omega)]
    refine ⟨by show va_up _ _ _ a = _; rw [up_ne (by omega)]; exact q1, by show va_up _ _ _ a = _; rw [up_ne (by omega)]; exact q2, by show va_up _ _ _ a = _; rw [up_ne (by omega)]; exact q3, fun j hj => ?_⟩
    show va_cpy ml.1 mr.1 _ _ _ _ = _
    rw [pk_cpy_out (Or.inl (by omega))]
    exact q4 j hj
  · have e : a = c := by omega
    subst e
    rw [show va_up pl a bi a = bi from if_pos rfl]
    refine ⟨up_eq, up_eq, by show va_up _ _ _ a = _; rw [up_eq]; exact hv, fun j hj => ?_⟩
    show va_cpy ml.1 mr.1 _ _ _ _ = _
    rw [pk_cpy_in (by omega) (by omega)]
    exact cg (by omega)
theorem mrIs_congr {ml : MlT} {g pl pl' : Nat → Nat} {c : Nat} {mr : (Nat → Nat) × (Nat → Nat) × (Nat → Nat) × (Nat → Nat) × Nat} (h : MrIs ml g pl c mr) (e : ∀ a, a < c → pl a = pl' a) : MrIs ml g pl' c mr :=
  ⟨h.1, fun a ha => by rw [← e a ha]; exact h.2 a ha⟩
abbrev rmX6_ask : Room := { frames := 2, cells := 0, slots := 0, locals := 44 }
set_option maxHeartbeats 4000000 in
set_option maxRecDepth 100000 in
theorem mX6_ask (l : Launch) (D : va_G) (b : Nat → Nat) (cs : Nat → ClassId) (mt : (Nat → Int32) × Nat) (ml : (Nat → Nat) × (Nat → Nat) × (Nat → Nat) × Nat × Nat) (mr : (Nat → Nat) × (Nat → Nat) × (Nat → Nat) × (Nat → Nat) × Nat) (mk : (Nat → Bool) × (Nat → Nat) × (Nat → Nat)) (x : Int32) (y : Int32) (bb : Bool) (b3 : Bool) (pl : Nat → Nat) (cn : Nat) (hb2 : wInjM b) (hM : MlB ml) (hT : mt.2 ≤ 400) (hR : MrB mr) (hbb : bb = true ↔ goodT mt) (hb3 : b3 = true ↔ askOk x y) (htop : (bb && b3) = true → IsTop ml.2.2.2.1 (fun i => decide (nrF (qF mt) mt.2 (TM ml i) (ZM ml i) ≤ y.toNatClampNeg)) ml.2.2.1 x.toNatClampNeg pl cn) : Met l yX6_ask wsX6_ask rmX6_ask (wdP D vwCl (wM b cs mt ml mr mk) (tyX cs) [.ref (b 0), .int (x), .int (y)]) (wrQ (some (.int (bif (bb && b3) then nI cn else (-1)))) (fun H => ∃ mr9 mk9, MrB mr9 ∧ ((bb && b3) = true → MrIs ml (fun i => nrF (qF mt) mt.2 (TM ml i) (ZM ml i)) pl cn mr9) ∧ ((bb && b3) = false → mr9 = mr) ∧ va_P D vwCl (wM b cs (mt.1, 0) ml mr9 mk9) H) (inM b)) 0 0 (inM b) := by
  obtain ⟨hM1, hM2, hM3, hM4, hM5⟩ := id hM
  obtain ⟨hR1, hR2, hR3, hR4⟩ := id hR
  refine nz_metWi (by decide) rfl (Nat.le_of_ble_eq_true rfl) rfl ?_
  intro p e s m args below meth c Q hx hb hml hts hown hP hK hret ls hl
  have hl : lv_has ls 7 [(0, .ref (b 0)), (1, .int (x)), (2, .int (y))] := hl
  have hown : s.vm.findClass RX6 = some m.cls := hown
  have hinX6 : ∀ w ∈ u_ws RX6 TX6 15, w ∈ wsX6_ask := by decide +kernel
  have hS : va_S (inM b) s.heap s.heap [] := va_S.rf
  obtain ⟨H, hH⟩ : ∃ H, H = s.heap := ⟨_, rfl⟩
  obtain ⟨locs, hlocs⟩ : ∃ locs : List Loc, locs = [] := ⟨_, rfl⟩
  have hP : va_P D vwCl (wM b cs mt ml mr mk) H := hH ▸ hP
  have hS : va_S (inM b) s.heap H locs := by rw [hH, hlocs]; exact va_S.rf
  suffices hgo : W p l e rmX6_ask s m args below meth c H locs 0 0 Q (F0 m 0 ls []) by rw [hH, hlocs] at hgo; exact hgo
  clear hH hlocs
  refine lv_aload_n hx hb dX6_ask_0 rfl (lv_at hl 0 rfl) ?_
  refine lv_iconst (v := nI 0) hx hb dX6_ask_1 (by decide +kernel) ?_
  refine nz_callW (va_runV (As := [.int (nI (0))]) (rest := []) ⟨hx, hb, hml, hown, hts⟩ (mX6_taken l D b cs mt ml mr mk 0 bb hb2 hT (by omega) (hbb.trans ⟨fun h => ⟨h, Nat.zero_le _⟩, fun h => h.1⟩)) (cwV 1 hts gX6_ask_X6_taken rfl rfl rfl (by decide +kernel) ⟨Nat.le_of_ble_eq_true rfl, Nat.le_of_ble_eq_true rfl⟩) (nz_preV (ci := 6) (q0 := 0) hK hP rfl rfl) rfl rfl hl.1 rfl (lv_room (Nat.le_of_ble_eq_true rfl)) dX6_ask_2 ⟨Nat.zero_le _, Nat.zero_le _⟩) hS (fun _ h => h) (fun H locs hP _ _ hS => ?_)
  refine lv_istore_n (lv' := [(3, .int (bif bb then nI mt.2 else (-1))), (0, .ref (b 0)), (1, .int (x)), (2, .int (y))]) hx hb dX6_ask_5 rfl hl (by decide) rfl (fun ls hl => ?_)
  refine lv_iload_n hx hb dX6_ask_6 rfl (lv_at hl 0 rfl) ?_
  refine lv_iconst (v := (-1)) hx hb dX6_ask_7 (by decide +kernel) ?_
  refine lv_icmp_eq (tgt := 31) hx hb dX6_ask_8 (by decide) (fun c_8 => ?_) (fun c_8 => ?_)
  · have hbf := pb_eq (by omega) c_8
    refine lv_iconst (v := (-1)) hx hb dX6_ask_31 (by decide +kernel) ?_
    have hz : (bb && b3) = false := by
      cases hbb9 : bb with
      | false => rfl
      | true =>
        cases hb39 : b3 with
        | false => rfl
        | true =>
          have h9 := hb3.mp hb39
          first | exact absurd (hbf.symm.trans hbb9) (by decide) | exact absurd h9 hno
    rw [hz] at hret
    exact hret 32 ls H locs dX6_ask_32 ⟨_, _, hR, (fun h => by cases h), fun _ => rfl, hP⟩ hS
  · have hbt := pb_ne c_8
    have hgd : goodT mt := hbb.mp hbt
    have hg1 := hgd.1
    have e_1 : (bif bb then nI mt.2 else (-1)) = (nI (mt.2)) := by rw [hbt]; rfl
    have hl : lv_has ls 7 [(3, .int (nI (mt.2))), (0, .ref (b 0)), (1, .int (x)), (2, .int (y))] := by rw [← e_1]; exact hl
    refine lv_iload_n hx hb dX6_ask_11 rfl (lv_at hl 2 rfl) ?_
    refine lv_iconst (v := nI 1) hx hb dX6_ask_12 (by decide +kernel) ?_
    refine lv_icmp_lt (tgt := 31) hx hb dX6_ask_13 (by decide) (fun c_13 => ?_) (fun c_13 => ?_)
    · have hno : ¬ askOk x y := fun h => by have h1 := h.1; have h2 : x.toNatClampNeg = 0 := clamp_lt1 c_13; omega
      refine lv_iconst (v := (-1)) hx hb dX6_ask_31 (by decide +kernel) ?_
      have hz : (bb && b3) = false := by
        cases hbb9 : bb with
        | false => rfl
        | true =>
          cases hb39 : b3 with
          | false => rfl
          | true =>
            have h9 := hb3.mp hb39
            first | exact absurd (hbf.symm.trans hbb9) (by decide) | exact absurd h9 hno
      rw [hz] at hret
      exact hret 32 ls H locs dX6_ask_32 ⟨_, _, hR, (fun h => by cases h), fun _ => rfl, hP⟩ hS
    · obtain ⟨k1, hk1, rfl⟩ := nI_of (x := x) (fun z => c_13 (Int32.lt_trans z (by decide +kernel)))
      have hk10 : 1 ≤ k1 := Nat.pos_of_ne_zero (fun z => c_13 (by rw [z]; decide +kernel))
      refine lv_iload_n hx hb dX6_ask_16 rfl (lv_at hl 2 rfl) ?_
      refine lv_bipush (v := nI 50) hx hb dX6_ask_17 (by decide +kernel) ?_
      refine nz_cgt (a := k1) (b := 50) (tgt := 31) hx hb dX6_ask_19 (by decide) (by omega) (by omega) (fun c_19 => ?_) (fun c_19 => ?_)
      · have hno : ¬ askOk (nI k1) y := fun h => by have h1 := h.2.1; rw [nI_clamp hk1] at h1; omega
        refine lv_iconst (v := (-1)) hx hb dX6_ask_31 (by decide +kernel) ?_
        have hz : (bb && b3) = false := by
          cases hbb9 : bb with
          | false => rfl
          | true =>
            cases hb39 : b3 with
            | false => rfl
            | true =>
              have h9 := hb3.mp hb39
              first | exact absurd (hbf.symm.trans hbb9) (by decide) | exact absurd h9 hno
        rw [hz] at hret
        exact hret 32 ls H locs dX6_ask_32 ⟨_, _, hR, (fun h => by cases h), fun _ => rfl, hP⟩ hS
      · refine lv_iload_n hx hb dX6_ask_22 rfl (lv_at hl 3 rfl) ?_
        refine lv_if_lt (tgt := 31) hx hb dX6_ask_23 (by decide) (fun c_23 => ?_) (fun c_23 => ?_)
        · have hno : ¬ askOk (nI k1) y := fun h => h.2.2.1 c_23
          refine lv_iconst (v := (-1)) hx hb dX6_ask_31 (by decide +kernel) ?_
          have hz : (bb && b3) = false := by
            cases hbb9 : bb with
            | false => rfl
            | true =>
              cases hb39 : b3 with
              | false => rfl
              | true =>
                have h9 := hb3.mp hb39
                first | exact absurd (hbf.symm.trans hbb9) (by decide) | exact absurd h9 hno
          rw [hz] at hret
          exact hret 32 ls H locs dX6_ask_32 ⟨_, _, hR, (fun h => by cases h), fun _ => rfl, hP⟩ hS
        · obtain ⟨d1, hd1, rfl⟩ := nI_of c_23
          refine lv_iload_n hx hb dX6_ask_26 rfl (lv_at hl 3 rfl) ?_
          refine lv_iconst (v := nI 2) hx hb dX6_ask_27 (by decide +kernel) ?_
          refine nz_cle (a := d1) (b := 2) (tgt := 33) hx hb dX6_ask_28 (by decide) (by omega) (by omega) (fun c_28 => ?_) (fun c_28 => ?_)
          · refine lv_iconst (v := nI 0) hx hb dX6_ask_33 (by decide +kernel) ?_
            refine lv_istore (lv' := [(4, .int (nI (0))), (3, .int (nI (mt.2))), (0, .ref (b 0)), (1, .int (nI (k1))), (2, .int (nI (d1)))]) hx hb dX6_ask_34 hl (by decide) rfl (fun ls hl => ?_)
            have loop : ∀ (fuel : Nat) (k : Nat) (tk : Nat → Bool) (nn : Nat → Nat) (ro2 : Nat → Nat), (k ≤ ml.2.2.2.1) → (∀ i, i < k → nn i = nrF (qF mt) mt.2 (TM ml i) (ZM ml i)) → (∀ i, i < k → tk i = !(decide (nrF (qF mt) mt.2 (TM ml i) (ZM ml i) ≤ d1))) → ml.2.2.2.1 - k < fuel → ∀ (H : Heap) (locs : List Loc), va_P D vwCl (wM b cs (mt.1, 0) ml mr (tk, nn, ro2)) H → va_S (inM b) s.heap H locs → ∀ ls : Array Slot, lv_has ls 7 [(0, .ref (b 0)), (1, .int (nI (k1))), (2, .int (nI (d1))), (3, .int (nI (mt.2))), (4, .int (nI (k)))] → W p l e rmX6_ask s m args below meth c H locs 0 0 Q (F0 m 36 ls []) := by
              intro fuel
              induction fuel with
              | zero => intro k tk nn ro2 hk hnn htk hf; exact absurd hf (Nat.not_lt_zero _)
              | succ fuel ih =>
                intro k tk nn ro2 hk hnn htk hf H locs hP hS ls hl
                have hnb : nrF (qF mt) mt.2 (TM ml k) (ZM ml k) ≤ mt.2 := minR_le _ _ 0 (Nat.zero_le _)
                refine lv_iload hx hb dX6_ask_36 (lv_at hl 4 rfl) ?_
                refine lv_aload_n hx hb dX6_ask_38 rfl (lv_at hl 0 rfl) ?_
                refine va_get (D := D) (ci := 6) (v := .int (nI (ml.2.2.2.1))) (C := RX6) (T := TX6) (N := 15) hx hb hts hinX6 hown hK hP 0 rfl rfl 2 (by decide) (hts (.fieldLink RX6 46 "TypoSuggesterModel" "count" "I") (by decide +kernel)) (fun _ h9 => h9) rfl dX6_ask_39 ?_
                refine nz_cge (a := k) (b := ml.2.2.2.1) (tgt := 88) hx hb dX6_ask_42 (by decide) (by omega) (by omega) (fun c_42 => ?_) (fun c_42 => ?_)
                · have hkn : k = ml.2.2.2.1 := by omega
                  refine lv_aload_n hx hb dX6_ask_88 rfl (lv_at hl 0 rfl) ?_
                  refine lv_iconst (v := nI 0) hx hb dX6_ask_89 (by decide +kernel) ?_
                  refine nz_put (D := D) (ci := 6) (v := .int (nI (0))) (ty := .int) (ws' := wM b cs (mt.1, 0) ml (mr.1, mr.2.1, mr.2.2.1, mr.2.2.2.1, 0) (tk, nn, ro2)) (C := RX6) (T := TX6) (N := 15) hx hb hts hinX6 tyX6 tyX6_ok nmX6 hown hK hP (wM_D hb2) hS 0 rfl rfl 7 (by decide) (hts (.fieldLink RX6 94 "TypoSuggesterModel" "results" "I") (by decide +kernel)) (fun _ h9 => h9) rfl (by decide +kernel) rfl rfl (Nat.le_of_ble_eq_true rfl) dX6_ask_90 rfl (fun H locs hP hS => ?_)
                  refine lv_iconst (v := nI 1) hx hb dX6_ask_93 (by decide +kernel) ?_
                  refine lv_istore (lv' := [(4, .int (nI (1))), (0, .ref (b 0)), (1, .int (nI (k1))), (2, .int (nI (d1))), (3, .int (nI (mt.2)))]) hx hb dX6_ask_94 hl (by decide) rfl (fun ls hl => ?_)
                  have e_2 : (nI (1)) = (bI (true)) := bI_t
                  have hl : lv_has ls 7 [(4, .int (bI (true))), (0, .ref (b 0)), (1, .int (nI (k1))), (2, .int (nI (d1))), (3, .int (nI (mt.2)))] := by rw [← e_2]; exact hl
                  have loop2 : ∀ (fuel : Nat) (c9 : Nat) (tk2 : Nat → Bool) (pl2 : Nat → Nat) (mr2 : (Nat → Nat) × (Nat → Nat) × (Nat → Nat) × (Nat → Nat) × Nat) (mo : Bool), (c9 ≤ k1) → (Sel ml.2.2.2.1 (fun i => decide (nrF (qF mt) mt.2 (TM ml i) (ZM ml i) ≤ d1)) ml.2.2.1 tk2 pl2 c9) → (MrIs ml (fun i => nrF (qF mt) mt.2 (TM ml i) (ZM ml i)) pl2 c9 mr2) → (MrB mr2) → (mo = false → ∀ i, i < ml.2.2.2.1 → tk2 i = true) → (if mo = true then 1 else 0) + (k1 - c9) < fuel → ∀ (H : Heap) (locs : List Loc), va_P D vwCl (wM b cs (mt.1, 0) ml mr2 (tk2, nn, ro2)) H → va_S (inM b) s.heap H locs → ∀ ls : Array Slot, lv_has ls 7 [(0, .ref (b 0)), (1, .int (nI (k1))), (4, .int (bI (mo)))] → W p l e rmX6_ask s m args below meth c H locs 0 0 Q (F0 m 96 ls []) := by
                    intro fuel
                    induction fuel with
                    | zero => intro c9 tk2 pl2 mr2 mo hc9 hsel hmr hrb hmo hf; exact absurd hf (Nat.not_lt_zero _)
                    | succ fuel ih2 =>
                      intro c9 tk2 pl2 mr2 mo hc9 hsel hmr hrb hmo hf H locs hP hS ls hl
                      obtain ⟨hq1, hq2, hq3, hq4⟩ := id hrb
                      have hec : mr2.2.2.2.2 = c9 := hmr.1
                      have hm0 : (if false = true then 1 else 0 : Nat) = 0 := rfl
                      have hm1 : (if true = true then 1 else 0 : Nat) = 1 := rfl
                      refine lv_iload hx hb dX6_ask_96 (lv_at hl 2 rfl) ?_
                      refine nz_ifeqB (tgt := 299) hx hb dX6_ask_98 (by decide) (fun c_98 => ?_) (fun c_98 => ?_)
                      · refine lv_aload_n hx hb dX6_ask_299 rfl (lv_at hl 0 rfl) ?_
                        refine va_get (D := D) (ci := 6) (v := .int (nI (mr2.2.2.2.2))) (C := RX6) (T := TX6) (N := 15) hx hb hts hinX6 hown hK hP 0 rfl rfl 7 (by decide) (hts (.fieldLink RX6 94 "TypoSuggesterModel" "results" "I") (by decide +kernel)) (fun _ h9 => h9) rfl dX6_ask_300 ?_
                        have hb39 : b3 = true := hb3.mpr ⟨by rw [nI_clamp hk1]; omega, by rw [nI_clamp hk1]; omega, nI_pos hd1, by rw [nI_clamp hd1]; exact c_28⟩
                        subst hb39
                        subst hbt
                        have htp := htop rfl
                        rw [nI_clamp hk1, nI_clamp hd1] at htp
                        have ht9 := sel_top (k := k1) hsel hc9 (by first | exact Or.inl (hmo c_98) | exact Or.inr (by omega))
                        obtain ⟨ec, epl⟩ := top_un ht9 htp
                        rw [show mr2.2.2.2.2 = cn by omega]
                        exact hret 303 ls H locs dX6_ask_303 ⟨_, _, hrb, fun _ => ec ▸ mrIs_congr hmr epl, (fun h => by cases h), hP⟩ hS
                      · have hmm : (if mo = true then 1 else 0 : Nat) = 1 := if_pos c_98
                        refine lv_aload_n hx hb dX6_ask_101 rfl (lv_at hl 0 rfl) ?_
                        refine va_get (D := D) (ci := 6) (v := .int (nI (mr2.2.2.2.2))) (C := RX6) (T := TX6) (N := 15) hx hb hts hinX6 hown hK hP 0 rfl rfl 7 (by decide) (hts (.fieldLink RX6 94 "TypoSuggesterModel" "results" "I") (by decide +kernel)) (fun _ h9 => h9) rfl dX6_ask_102 ?_
                        refine lv_iload_n hx hb dX6_ask_105 rfl (lv_at hl 1 rfl) ?_
                        refine nz_cge (a := mr2.2.2.2.2) (b := k1) (tgt := 299) hx hb dX6_ask_106 (by decide) (by omega) (by omega) (fun c_106 => ?_) (fun c_106 => ?_)
                        · refine lv_aload_n hx hb dX6_ask_299 rfl (lv_at hl 0 rfl) ?_
                          refine va_get (D := D) (ci := 6) (v := .int (nI (mr2.2.2.2.2))) (C := RX6) (T := TX6) (N := 15) hx hb hts hinX6 hown hK hP 0 rfl rfl 7 (by decide) (hts (.fieldLink RX6 94 "TypoSuggesterModel" "results" "I") (by decide +kernel)) (fun _ h9 => h9) rfl dX6_ask_300 ?_
                          have hb39 : b3 = true := hb3.mpr ⟨by rw [nI_clamp hk1]; omega, by rw [nI_clamp hk1]; omega, nI_pos hd1, by rw [nI_clamp hd1]; exact c_28⟩
                          subst hb39
                          subst hbt
                          have htp := htop rfl
                          rw [nI_clamp hk1, nI_clamp hd1] at htp
                          have ht9 := sel_top (k := k1) hsel hc9 (by first | exact Or.inl (hmo c_98) | exact Or.inr (by omega))
                          obtain ⟨ec, epl⟩ := top_un ht9 htp
                          rw [show mr2.2.2.2.2 = cn by omega]
                          exact hret 303 ls H locs dX6_ask_303 ⟨_, _, hrb, fun _ => ec ▸ mrIs_congr hmr epl, (fun h => by cases h), hP⟩ hS
                        · refine lv_iconst (v := (-1)) hx hb dX6_ask_109 (by decide +kernel) ?_
                          refine lv_istore (lv' := [(5, .int ((-1))), (0, .ref (b 0)), (1, .int (nI (k1))), (4, .int (bI (mo)))]) hx hb dX6_ask_110 hl (by decide) rfl (fun ls hl => ?_)
                          refine lv_iconst (v := nI 0) hx hb dX6_ask_112 (by decide +kernel) ?_
                          refine lv_istore (lv' := [(6, .int (nI (0))), (5, .int ((-1))), (0, .ref (b 0)), (1, .int (nI (k1))), (4, .int (bI (mo)))]) hx hb dX6_ask_113 hl (by decide) rfl (fun ls hl => ?_)
                          have loop3 : ∀ (fuel : Nat) (k3 : Nat) (hb8 : Bool) (bi : Nat), (k3 ≤ ml.2.2.2.1) → (BestIs ml.2.2.1 tk2 k3 hb8 bi) → (bi ≤ 600) → ml.2.2.2.1 - k3 < fuel → ∀ (H : Heap) (locs : List Loc), va_P D vwCl (wM b cs (mt.1, 0) ml mr2 (tk2, nn, ro2)) H → va_S (inM b) s.heap H locs → ∀ ls : Array Slot, lv_has ls 7 [(0, .ref (b 0)), (1, .int (nI (k1))), (5, .int (bif hb8 then nI bi else (-1))), (6, .int (nI (k3)))] → W p l e rmX6_ask s m args below meth c H locs 0 0 Q (F0 m 115 ls []) := by
                            intro fuel
                            induction fuel with
                            | zero => intro k3 hb8 bi hk3 hbst hb6 hf; exact absurd hf (Nat.not_lt_zero _)
                            | succ fuel ih3 =>
                              intro k3 hb8 bi hk3 hbst hb6 hf H locs hP hS ls hl
                              have hwb3 := hM4 k3
                              have hwb4 := hM4 bi
                              refine lv_iload hx hb dX6_ask_115 (lv_at hl 3 rfl) ?_
                              refine lv_aload_n hx hb dX6_ask_117 rfl (lv_at hl 0 rfl) ?_
                              refine va_get (D := D) (ci := 6) (v := .int (nI (ml.2.2.2.1))) (C := RX6) (T := TX6) (N := 15) hx hb hts hinX6 hown hK hP 0 rfl rfl 2 (by decide) (hts (.fieldLink RX6 46 "TypoSuggesterModel" "count" "I") (by decide +kernel)) (fun _ h9 => h9) rfl dX6_ask_118 ?_
                              refine nz_cge (a := k3) (b := ml.2.2.2.1) (tgt := 168) hx hb dX6_ask_121 (by decide) (by omega) (by omega) (fun c_121 => ?_) (fun c_121 => ?_)
                              · refine lv_iload hx hb dX6_ask_168 (lv_at hl 2 rfl) ?_
                                refine lv_iconst (v := (-1)) hx hb dX6_ask_170 (by decide +kernel) ?_
                                refine lv_icmp_eq (tgt := 178) hx hb dX6_ask_171 (by decide) (fun c_171 => ?_) (fun c_171 => ?_)
                                · have hbf2 := pb_eq (by omega) c_171
                                  refine lv_iconst (v := nI 0) hx hb dX6_ask_178 (by decide +kernel) ?_
                                  refine lv_istore (lv' := [(4, .int (nI (0))), (0, .ref (b 0)), (1, .int (nI (k1))), (5, .int (bif hb8 then nI bi else (-1))), (6, .int (nI (k3)))]) hx hb dX6_ask_179 hl (by decide) rfl (fun ls hl => ?_)
                                  refine lv_iload hx hb dX6_ask_181 (lv_at hl 0 rfl) ?_
                                  refine nz_ifeq (a := 0) (tgt := 296) hx hb dX6_ask_183 (by decide) (by omega) (fun _ => ?_) (fun h => absurd h (by decide))
                                  have e_3 : (nI (0)) = (bI (false)) := bI_f
                                  have hl : lv_has ls 7 [(4, .int (bI (false))), (0, .ref (b 0)), (1, .int (nI (k1))), (5, .int (bif hb8 then nI bi else (-1))), (6, .int (nI (k3)))] := by rw [← e_3]; exact hl
                                  rw [show k3 = ml.2.2.2.1 by omega] at hbst
                                  refine lv_goto (tgt := 96) hx hb dX6_ask_296 (by decide) ?_
                                  exact ih2 c9 tk2 pl2 mr2 false hc9 hsel hmr hrb (fun _ => hbst.1 hbf2) (by omega) H locs hP hS ls (lv_sub hl [1, 2, 0] rfl)
                                · have hbt2 := pb_ne c_171
                                  have hbi := hbst.2 hbt2
                                  rw [show k3 = ml.2.2.2.1 by omega] at hbi
                                  have hbib := hbi.1
                                  have e_4 : (bif hb8 then nI bi else (-1)) = (nI (bi)) := by rw [hbt2]; rfl
                                  have hl : lv_has ls 7 [(0, .ref (b 0)), (1, .int (nI (k1))), (5, .int (nI (bi))), (6, .int (nI (k3)))] := by rw [← e_4]; exact hl
                                  refine lv_iconst (v := nI 1) hx hb dX6_ask_174 (by decide +kernel) ?_
                                  refine lv_goto (tgt := 179) hx hb dX6_ask_175 (by decide) ?_
                                  refine lv_istore (lv' := [(4, .int (nI (1))), (0, .ref (b 0)), (1, .int (nI (k1))), (5, .int (nI (bi))), (6, .int (nI (k3)))]) hx hb dX6_ask_179 hl (by decide) rfl (fun ls hl => ?_)
                                  refine lv_iload hx hb dX6_ask_181 (lv_at hl 0 rfl) ?_
                                  refine nz_ifeq (a := 1) (tgt := 296) hx hb dX6_ask_183 (by decide) (by omega) (fun h => absurd h (by decide)) (fun _ => ?_)
                                  refine lv_aload_n hx hb dX6_ask_186 rfl (lv_at hl 1 rfl) ?_
                                  refine va_get (D := D) (ci := 6) (v := .ref (b 9)) (C := RX6) (T := TX6) (N := 15) hx hb hts hinX6 hown hK hP 0 rfl rfl 12 (by decide) (hts (.fieldLink RX6 36 "TypoSuggesterModel" "isTaken" "[Z") (by decide +kernel)) (fun _ h9 => h9) rfl dX6_ask_187 ?_
                                  refine lv_iload hx hb dX6_ask_190 (lv_at hl 3 rfl) ?_
                                  refine lv_iconst (v := nI 1) hx hb dX6_ask_192 (by decide +kernel) ?_
                                  refine nz_top bI_t ?_
                                  refine nz_zast (f := tk2) (k := bi) (v := true) (ws' := wM b cs (mt.1, 0) ml mr2 (va_up tk2 bi true, nn, ro2)) hx hb hK hP (wM_D hb2) hS 9 3 rfl rfl (by omega) (by decide) dX6_ask_193 rfl (fun H locs hP hS => ?_)
                                  refine lv_iconst (v := nI 0) hx hb dX6_ask_194 (by decide +kernel) ?_
                                  refine lv_istore (lv' := [(6, .int (nI (0))), (4, .int (nI (1))), (0, .ref (b 0)), (1, .int (nI (k1))), (5, .int (nI (bi)))]) hx hb dX6_ask_195 hl (by decide) rfl (fun ls hl => ?_)
                                  have hP : va_P D vwCl (wM b cs (mt.1, 0) ml (va_cpy ml.1 mr2.1 (24 * bi) (24 * c9) 0, mr2.2.1, mr2.2.2.1, mr2.2.2.2.1, mr2.2.2.2.2) (va_up tk2 bi true, nn, ro2)) H := by rw [cpy_0]; exact hP
                                  rw [hec] at hP
                                  have loop4 : ∀ (fuel : Nat) (j9 : Nat), (j9 ≤ 24) → 24 - j9 < fuel → ∀ (H : Heap) (locs : List Loc), va_P D vwCl (wM b cs (mt.1, 0) ml (va_cpy ml.1 mr2.1 (24 * bi) (24 * c9) j9, mr2.2.1, mr2.2.2.1, mr2.2.2.2.1, c9) (va_up tk2 bi true, nn, ro2)) H → va_S (inM b) s.heap H locs → ∀ ls : Array Slot, lv_has ls 7 [(0, .ref (b 0)), (1, .int (nI (k1))), (4, .int (nI (1))), (5, .int (nI (bi))), (6, .int (nI (j9)))] → W p l e rmX6_ask s m args below meth c H locs 0 0 Q (F0 m 197 ls []) := by
                                    intro fuel
                                    induction fuel with
                                    | zero => intro j9 hj9 hf; exact absurd hf (Nat.not_lt_zero _)
                                    | succ fuel ih4 =>
                                      intro j9 hj9 hf H locs hP hS ls hl
                                      refine lv_iload hx hb dX6_ask_197 (lv_at hl 4 rfl) ?_
                                      refine lv_bipush (v := nI 24) hx hb dX6_ask_199 (by decide +kernel) ?_
                                      refine nz_cge (a := j9) (b := 24) (tgt := 238) hx hb dX6_ask_201 (by decide) (by omega) (by omega) (fun c_201 => ?_) (fun c_201 => ?_)
                                      · rw [show j9 = 24 by omega] at hP
                                        refine lv_aload_n hx hb dX6_ask_238 rfl (lv_at hl 0 rfl) ?_
                                        refine va_get (D := D) (ci := 6) (v := .ref (b 6)) (C := RX6) (T := TX6) (N := 15) hx hb hts hinX6 hown hK hP 0 rfl rfl 9 (by decide) (hts (.fieldLink RX6 27 "TypoSuggesterModel" "resultSize" "[I") (by decide +kernel)) (fun _ h9 => h9) rfl dX6_ask_239 ?_
                                        refine lv_aload_n hx hb dX6_ask_242 rfl (lv_at hl 0 rfl) ?_
                                        refine va_get (D := D) (ci := 6) (v := .int (nI (c9))) (C := RX6) (T := TX6) (N := 15) hx hb hts hinX6 hown hK hP 0 rfl rfl 7 (by decide) (hts (.fieldLink RX6 94 "TypoSuggesterModel" "results" "I") (by decide +kernel)) (fun _ h9 => h9) rfl dX6_ask_243 ?_
                                        refine lv_aload_n hx hb dX6_ask_246 rfl (lv_at hl 0 rfl) ?_
                                        refine va_get (D := D) (ci := 6) (v := .ref (b 3)) (C := RX6) (T := TX6) (N := 15) hx hb hts hinX6 hown hK hP 0 rfl rfl 5 (by decide) (hts (.fieldLink RX6 16 "TypoSuggesterModel" "sizes" "[I") (by decide +kernel)) (fun _ h9 => h9) rfl dX6_ask_247 ?_
                                        refine lv_iload hx hb dX6_ask_250 (lv_at hl 3 rfl) ?_
                                        refine nz_iald (f := ml.2.1) (k := bi) hx hb hK hP 3 1 rfl rfl (by omega) (by decide) dX6_ask_252 ?_
                                        refine nz_iast (f := mr2.2.1) (k := c9) (v := ml.2.1 bi) (ws' := wM b cs (mt.1, 0) ml (va_cpy ml.1 mr2.1 (24 * bi) (24 * c9) 24, va_up mr2.2.1 c9 (ml.2.1 bi), mr2.2.2.1, mr2.2.2.2.1, c9) (va_up tk2 bi true, nn, ro2)) hx hb hK hP (wM_D hb2) hS 6 1 rfl rfl (by omega) (by decide) dX6_ask_253 rfl (fun H locs hP hS => ?_)
                                        refine lv_aload_n hx hb dX6_ask_254 rfl (lv_at hl 0 rfl) ?_
                                        refine va_get (D := D) (ci := 6) (v := .ref (b 7)) (C := RX6) (T := TX6) (N := 15) hx hb hts hinX6 hown hK hP 0 rfl rfl 10 (by decide) (hts (.fieldLink RX6 30 "TypoSuggesterModel" "resultWeight" "[J") (by decide +kernel)) (fun _ h9 => h9) rfl dX6_ask_255 ?_
                                        refine lv_aload_n hx hb dX6_ask_258 rfl (lv_at hl 0 rfl) ?_
                                        refine va_get (D := D) (ci := 6) (v := .int (nI (c9))) (C := RX6) (T := TX6) (N := 15) hx hb hts hinX6 hown hK hP 0 rfl rfl 7 (by decide) (hts (.fieldLink RX6 94 "TypoSuggesterModel" "results" "I") (by decide +kernel)) (fun _ h9 => h9) rfl dX6_ask_259 ?_
                                        refine lv_aload_n hx hb dX6_ask_262 rfl (lv_at hl 0 rfl) ?_
                                        refine va_get (D := D) (ci := 6) (v := .ref (b 4)) (C := RX6) (T := TX6) (N := 15) hx hb hts hinX6 hown hK hP 0 rfl rfl 6 (by decide) (hts (.fieldLink RX6 20 "TypoSuggesterModel" "weights" "[J") (by decide +kernel)) (fun _ h9 => h9) rfl dX6_ask_263 ?_
                                        refine lv_iload hx hb dX6_ask_266 (lv_at hl 3 rfl) ?_
                                        refine nz_lald (f := ml.2.2.1) (k := bi) hx hb hK hP 4 2 rfl rfl (by omega) (by decide) dX6_ask_268 ?_
                                        refine nz_last (f := mr2.2.2.1) (k := c9) (v := ml.2.2.1 bi) (ws' := wM b cs (mt.1, 0) ml (va_cpy ml.1 mr2.1 (24 * bi) (24 * c9) 24, va_up mr2.2.1 c9 (ml.2.1 bi), va_up mr2.2.2.1 c9 (ml.2.2.1 bi), mr2.2.2.2.1, c9) (va_up tk2 bi true, nn, ro2)) hx hb hK hP (wM_D hb2) hS 7 2 rfl rfl (by omega) (by decide) dX6_ask_269 rfl (fun H locs hP hS => ?_)
                                        refine lv_aload_n hx hb dX6_ask_270 rfl (lv_at hl 0 rfl) ?_
                                        refine va_get (D := D) (ci := 6) (v := .ref (b 8)) (C := RX6) (T := TX6) (N := 15) hx hb hts hinX6 hown hK hP 0 rfl rfl 11 (by decide) (hts (.fieldLink RX6 33 "TypoSuggesterModel" "resultNear" "[I") (by decide +kernel)) (fun _ h9 => h9) rfl dX6_ask_271 ?_
                                        refine lv_aload_n hx hb dX6_ask_274 rfl (lv_at hl 0 rfl) ?_
                                        refine va_get (D := D) (ci := 6) (v := .int (nI (c9))) (C := RX6) (T := TX6) (N := 15) hx hb hts hinX6 hown hK hP 0 rfl rfl 7 (by decide) (hts (.fieldLink RX6 94 "TypoSuggesterModel" "results" "I") (by decide +kernel)) (fun _ h9 => h9) rfl dX6_ask_275 ?_
                                        refine lv_aload_n hx hb dX6_ask_278 rfl (lv_at hl 0 rfl) ?_
                                        refine va_get (D := D) (ci := 6) (v := .ref (b 10)) (C := RX6) (T := TX6) (N := 15) hx hb hts hinX6 hown hK hP 0 rfl rfl 13 (by decide) (hts (.fieldLink RX6 40 "TypoSuggesterModel" "nearness" "[I") (by decide +kernel)) (fun _ h9 => h9) rfl dX6_ask_279 ?_
                                        refine lv_iload hx hb dX6_ask_282 (lv_at hl 3 rfl) ?_
                                        refine nz_iald (f := nn) (k := bi) hx hb hK hP 10 1 rfl rfl (by omega) (by decide) dX6_ask_284 ?_
                                        refine nz_iast (f := mr2.2.2.2.1) (k := c9) (v := nn bi) (ws' := wM b cs (mt.1, 0) ml (va_cpy ml.1 mr2.1 (24 * bi) (24 * c9) 24, va_up mr2.2.1 c9 (ml.2.1 bi), va_up mr2.2.2.1 c9 (ml.2.2.1 bi), va_up mr2.2.2.2.1 c9 (nn bi), c9) (va_up tk2 bi true, nn, ro2)) hx hb hK hP (wM_D hb2) hS 8 1 rfl rfl (by omega) (by decide) dX6_ask_285 rfl (fun H locs hP hS => ?_)
                                        refine lv_aload_n hx hb dX6_ask_286 rfl (lv_at hl 0 rfl) ?_
                                        refine lv_dup hx hb dX6_ask_287 rfl ?_
                                        refine va_get (D := D) (ci := 6) (v := .int (nI (c9))) (C := RX6) (T := TX6) (N := 15) hx hb hts hinX6 hown hK hP 0 rfl rfl 7 (by decide) (hts (.fieldLink RX6 94 "TypoSuggesterModel" "results" "I") (by decide +kernel)) (fun _ h9 => h9) rfl dX6_ask_288 ?_
                                        refine lv_iconst (v := nI 1) hx hb dX6_ask_291 (by decide +kernel) ?_
                                        refine nz_iadd (a := c9) (b := 1) hx hb dX6_ask_292 ?_
                                        refine nz_put (D := D) (ci := 6) (v := .int (nI (c9 + 1))) (ty := .int) (ws' := wM b cs (mt.1, 0) ml (va_cpy ml.1 mr2.1 (24 * bi) (24 * c9) 24, va_up mr2.2.1 c9 (ml.2.1 bi), va_up mr2.2.2.1 c9 (ml.2.2.1 bi), va_up mr2.2.2.2.1 c9 (nn bi), c9 + 1) (va_up tk2 bi true, nn, ro2)) (C := RX6) (T := TX6) (N := 15) hx hb hts hinX6 tyX6 tyX6_ok nmX6 hown hK hP (wM_D hb2) hS 0 rfl rfl 7 (by decide) (hts (.fieldLink RX6 94 "TypoSuggesterModel" "results" "I") (by decide +kernel)) (fun _ h9 => h9) rfl (by decide +kernel) rfl rfl (Nat.le_of_ble_eq_true rfl) dX6_ask_293 rfl (fun H locs hP hS => ?_)
                                        have e_5 : (nI (1)) = (bI (true)) := bI_t
                                        have hl : lv_has ls 7 [(0, .ref (b 0)), (1, .int (nI (k1))), (4, .int (bI (true))), (5, .int (nI (bi))), (6, .int (nI (j9)))] := by rw [← e_5]; exact hl
                                        refine lv_goto (tgt := 96) hx hb dX6_ask_296 (by decide) ?_
                                        exact ih2 (c9 + 1) (va_up tk2 bi true) (va_up pl2 c9 bi) ((va_cpy ml.1 mr2.1 (24 * bi) (24 * c9) 24, va_up mr2.2.1 c9 (ml.2.1 bi), va_up mr2.2.2.1 c9 (ml.2.2.1 bi), va_up mr2.2.2.2.1 c9 (nn bi), c9 + 1)) true (by omega) (sel_step hsel hbi.1 hbi.2.1 hbi.2.2) (mrIs_step hmr (hnn bi (by omega))) ⟨by show c9 + 1 ≤ 50; omega, up_le hq2 (hM2 _), up_le hq3 (hM4 _), up_le hq4 (by rw [hnn bi (by omega)]; have : nrF (qF mt) mt.2 (TM ml bi) (ZM ml bi) ≤ mt.2 := minR_le _ _ 0 (Nat.zero_le _); omega)⟩ (fun h => by cases h) (by omega) H locs hP hS ls (lv_sub hl [0, 1, 2] rfl)
                                      · refine lv_aload_n hx hb dX6_ask_204 rfl (lv_at hl 0 rfl) ?_
                                        refine va_get (D := D) (ci := 6) (v := .ref (b 5)) (C := RX6) (T := TX6) (N := 15) hx hb hts hinX6 hown hK hP 0 rfl rfl 8 (by decide) (hts (.fieldLink RX6 24 "TypoSuggesterModel" "resultLetters" "[B") (by decide +kernel)) (fun _ h9 => h9) rfl dX6_ask_205 ?_
                                        refine lv_bipush (v := nI 24) hx hb dX6_ask_208 (by decide +kernel) ?_
                                        refine lv_aload_n hx hb dX6_ask_210 rfl (lv_at hl 0 rfl) ?_
                                        refine va_get (D := D) (ci := 6) (v := .int (nI (c9))) (C := RX6) (T := TX6) (N := 15) hx hb hts hinX6 hown hK hP 0 rfl rfl 7 (by decide) (hts (.fieldLink RX6 94 "TypoSuggesterModel" "results" "I") (by decide +kernel)) (fun _ h9 => h9) rfl dX6_ask_211 ?_
                                        refine nz_imul (a := 24) (b := c9) hx hb dX6_ask_214 ?_
                                        refine lv_iload hx hb dX6_ask_215 (lv_at hl 4 rfl) ?_
                                        refine nz_iadd (a := 24 * c9) (b := j9) hx hb dX6_ask_217 ?_
                                        refine lv_aload_n hx hb dX6_ask_218 rfl (lv_at hl 0 rfl) ?_
                                        refine va_get (D := D) (ci := 6) (v := .ref (b 2)) (C := RX6) (T := TX6) (N := 15) hx hb hts hinX6 hown hK hP 0 rfl rfl 4 (by decide) (hts (.fieldLink RX6 13 "TypoSuggesterModel" "letters" "[B") (by decide +kernel)) (fun _ h9 => h9) rfl dX6_ask_219 ?_
                                        refine lv_bipush (v := nI 24) hx hb dX6_ask_222 (by decide +kernel) ?_
                                        refine lv_iload hx hb dX6_ask_224 (lv_at hl 3 rfl) ?_
                                        refine nz_imul (a := 24) (b := bi) hx hb dX6_ask_226 ?_
                                        refine lv_iload hx hb dX6_ask_227 (lv_at hl 4 rfl) ?_
                                        refine nz_iadd (a := 24 * bi) (b := j9) hx hb dX6_ask_229 ?_
                                        refine nz_bald (f := ml.1) (k := 24 * bi + j9) hx hb hK hP 2 0 rfl rfl (by omega) (by decide) dX6_ask_230 ?_
                                        refine nz_bast (f := va_cpy ml.1 mr2.1 (24 * bi) (24 * c9) j9) (k := 24 * c9 + j9) (v := ml.1 (24 * bi + j9)) (ws' := wM b cs (mt.1, 0) ml (va_up (va_cpy ml.1 mr2.1 (24 * bi) (24 * c9) j9) (24 * c9 + j9) (ml.1 (24 * bi + j9)), mr2.2.1, mr2.2.2.1, mr2.2.2.2.1, c9) (va_up tk2 bi true, nn, ro2)) hx hb hK hP (wM_D hb2) hS 5 0 rfl rfl (by omega) (by decide) (hM3 _) dX6_ask_231 rfl (fun H locs hP hS => ?_)
                                        have e_6 : va_up (va_cpy ml.1 mr2.1 (24 * bi) (24 * c9) j9) (24 * c9 + j9) (ml.1 (24 * bi + j9)) = va_cpy ml.1 mr2.1 (24 * bi) (24 * c9) (j9 + 1) := cpy_step rfl
                                        rw [e_6] at hP
                                        refine lv_iinc (v := nI (j9 + 1)) (lv' := [(6, .int (nI (j9 + 1))), (0, .ref (b 0)), (1, .int (nI (k1))), (4, .int (nI (1))), (5, .int (nI (bi)))]) hx hb dX6_ask_232 hl (k := 4) rfl (nz_inc1 _) (by decide) rfl (fun ls hl => ?_)
                                        refine lv_goto (tgt := 197) hx hb dX6_ask_235 (by decide) ?_
                                        exact ih4 (j9 + 1) (by omega) (by omega) H locs hP hS ls (lv_sub hl [1, 2, 3, 4, 0] rfl)
                                  exact loop4 (24 - 0 + 1) 0 (Nat.zero_le _) (Nat.lt_succ_self _) H locs hP hS ls (lv_sub hl [2, 3, 1, 4, 0] rfl)
                              · refine lv_aload_n hx hb dX6_ask_124 rfl (lv_at hl 0 rfl) ?_
                                refine va_get (D := D) (ci := 6) (v := .ref (b 9)) (C := RX6) (T := TX6) (N := 15) hx hb hts hinX6 hown hK hP 0 rfl rfl 12 (by decide) (hts (.fieldLink RX6 36 "TypoSuggesterModel" "isTaken" "[Z") (by decide +kernel)) (fun _ h9 => h9) rfl dX6_ask_125 ?_
                                refine lv_iload hx hb dX6_ask_128 (lv_at hl 3 rfl) ?_
                                refine nz_zald (f := tk2) (k := k3) hx hb hK hP 9 3 rfl rfl (by omega) (by decide) dX6_ask_130 ?_
                                refine nz_ifneB (tgt := 162) hx hb dX6_ask_131 (by decide) (fun c_131 => ?_) (fun c_131 => ?_)
                                · refine lv_iinc (v := nI (k3 + 1)) (lv' := [(6, .int (nI (k3 + 1))), (0, .ref (b 0)), (1, .int (nI (k1))), (5, .int (bif hb8 then nI bi else (-1)))]) hx hb dX6_ask_162 hl (k := 3) rfl (nz_inc1 _) (by decide) rfl (fun ls hl => ?_)
                                  refine lv_goto (tgt := 115) hx hb dX6_ask_165 (by decide) ?_
                                  exact ih3 (k3 + 1) hb8 bi (by omega) (best_skip hbst c_131) hb6 (by omega) H locs hP hS ls (lv_sub hl [1, 2, 3, 0] rfl)
                                · refine lv_iload hx hb dX6_ask_134 (lv_at hl 2 rfl) ?_
                                  refine lv_iconst (v := (-1)) hx hb dX6_ask_136 (by decide +kernel) ?_
                                  refine lv_icmp_eq (tgt := 158) hx hb dX6_ask_137 (by decide) (fun c_137 => ?_) (fun c_137 => ?_)
                                  · have hb8e := pb_eq (by omega) c_137
                                    refine lv_iload hx hb dX6_ask_158 (lv_at hl 3 rfl) ?_
                                    refine lv_istore (lv' := [(5, .int (nI (k3))), (0, .ref (b 0)), (1, .int (nI (k1))), (6, .int (nI (k3)))]) hx hb dX6_ask_160 hl (by decide) rfl (fun ls hl => ?_)
                                    refine lv_iinc (v := nI (k3 + 1)) (lv' := [(6, .int (nI (k3 + 1))), (5, .int (nI (k3))), (0, .ref (b 0)), (1, .int (nI (k1)))]) hx hb dX6_ask_162 hl (k := 3) rfl (nz_inc1 _) (by decide) rfl (fun ls hl => ?_)
                                    refine lv_goto (tgt := 115) hx hb dX6_ask_165 (by decide) ?_
                                    exact ih3 (k3 + 1) true k3 (by omega) (by first | exact best_new (hb8e ▸ hbst) c_131 c_155 | exact best_first (hb8e ▸ hbst) c_131) (by omega) (by omega) H locs hP hS ls (lv_sub hl [2, 3, 1, 0] rfl)
                                  · have hb8e := pb_ne c_137
                                    have hbib := (hbst.2 hb8e).1
                                    have e_7 : (bif hb8 then nI bi else (-1)) = (nI (bi)) := by rw [hb8e]; rfl
                                    have hl : lv_has ls 7 [(0, .ref (b 0)), (1, .int (nI (k1))), (5, .int (nI (bi))), (6, .int (nI (k3)))] := by rw [← e_7]; exact hl
                                    refine lv_aload_n hx hb dX6_ask_140 rfl (lv_at hl 0 rfl) ?_
                                    refine va_get (D := D) (ci := 6) (v := .ref (b 4)) (C := RX6) (T := TX6) (N := 15) hx hb hts hinX6 hown hK hP 0 rfl rfl 6 (by decide) (hts (.fieldLink RX6 20 "TypoSuggesterModel" "weights" "[J") (by decide +kernel)) (fun _ h9 => h9) rfl dX6_ask_141 ?_
                                    refine lv_iload hx hb dX6_ask_144 (lv_at hl 3 rfl) ?_
                                    refine nz_lald (f := ml.2.2.1) (k := k3) hx hb hK hP 4 2 rfl rfl (by omega) (by decide) dX6_ask_146 ?_
                                    refine lv_aload_n hx hb dX6_ask_147 rfl (lv_at hl 0 rfl) ?_
                                    refine va_get (D := D) (ci := 6) (v := .ref (b 4)) (C := RX6) (T := TX6) (N := 15) hx hb hts hinX6 hown hK hP 0 rfl rfl 6 (by decide) (hts (.fieldLink RX6 20 "TypoSuggesterModel" "weights" "[J") (by decide +kernel)) (fun _ h9 => h9) rfl dX6_ask_148 ?_
                                    refine lv_iload hx hb dX6_ask_151 (lv_at hl 2 rfl) ?_
                                    refine nz_lald (f := ml.2.2.1) (k := bi) hx hb hK hP 4 2 rfl rfl (by omega) (by decide) dX6_ask_153 ?_
                                    refine W.lcmp hx hb dX6_ask_154 ?_
                                    refine nz_lle (a := ml.2.2.1 k3) (b := ml.2.2.1 bi) (tgt := 162) hx hb dX6_ask_155 (by decide) (by omega) (by omega) (fun c_155 => ?_) (fun c_155 => ?_)
                                    · refine lv_iinc (v := nI (k3 + 1)) (lv' := [(6, .int (nI (k3 + 1))), (0, .ref (b 0)), (1, .int (nI (k1))), (5, .int (nI (bi)))]) hx hb dX6_ask_162 hl (k := 3) rfl (nz_inc1 _) (by decide) rfl (fun ls hl => ?_)
                                      refine lv_goto (tgt := 115) hx hb dX6_ask_165 (by decide) ?_
                                      exact ih3 (k3 + 1) true bi (by omega) (best_old (hb8e ▸ hbst) c_155) hb6 (by omega) H locs hP hS ls (lv_sub hl [1, 2, 3, 0] rfl)
                                    · refine lv_iload hx hb dX6_ask_158 (lv_at hl 3 rfl) ?_
                                      refine lv_istore (lv' := [(5, .int (nI (k3))), (0, .ref (b 0)), (1, .int (nI (k1))), (6, .int (nI (k3)))]) hx hb dX6_ask_160 hl (by decide) rfl (fun ls hl => ?_)
                                      refine lv_iinc (v := nI (k3 + 1)) (lv' := [(6, .int (nI (k3 + 1))), (5, .int (nI (k3))), (0, .ref (b 0)), (1, .int (nI (k1)))]) hx hb dX6_ask_162 hl (k := 3) rfl (nz_inc1 _) (by decide) rfl (fun ls hl => ?_)
                                      refine lv_goto (tgt := 115) hx hb dX6_ask_165 (by decide) ?_
                                      exact ih3 (k3 + 1) true k3 (by omega) (by first | exact best_new (hb8e ▸ hbst) c_131 c_155 | exact best_first (hb8e ▸ hbst) c_131) (by omega) (by omega) H locs hP hS ls (lv_sub hl [2, 3, 1, 0] rfl)
                          exact loop3 (ml.2.2.2.1 - 0 + 1) 0 false 0 (Nat.zero_le _) (⟨fun _ i h => absurd h (Nat.not_lt_zero _), (fun h => by cases h)⟩) (Nat.zero_le _) (Nat.lt_succ_self _) H locs hP hS ls (lv_sub hl [2, 3, 1, 0] rfl)
                  exact loop2 ((if true = true then 1 else 0) + (k1 - 0) + 1) 0 tk (fun _ => 0) ((mr.1, mr.2.1, mr.2.2.1, mr.2.2.2.1, 0)) true (Nat.zero_le _) (sel_0 (fun i hi => htk i (by omega))) (⟨rfl, fun a h => absurd h (Nat.not_lt_zero _)⟩) (⟨Nat.zero_le _, hR2, hR3, hR4⟩) (fun h => by cases h) (Nat.lt_succ_self _) H locs hP hS ls (lv_sub hl [1, 2, 0] rfl)
                · refine lv_aload_n hx hb dX6_ask_45 rfl (lv_at hl 0 rfl) ?_
                  refine va_get (D := D) (ci := 6) (v := .ref (b 10)) (C := RX6) (T := TX6) (N := 15) hx hb hts hinX6 hown hK hP 0 rfl rfl 13 (by decide) (hts (.fieldLink RX6 40 "TypoSuggesterModel" "nearness" "[I") (by decide +kernel)) (fun _ h9 => h9) rfl dX6_ask_46 ?_
                  refine lv_iload hx hb dX6_ask_49 (lv_at hl 4 rfl) ?_
                  refine lv_aload_n hx hb dX6_ask_51 rfl (lv_at hl 0 rfl) ?_
                  refine lv_iload hx hb dX6_ask_52 (lv_at hl 4 rfl) ?_
                  refine lv_iload_n hx hb dX6_ask_54 rfl (lv_at hl 3 rfl) ?_
                  refine nz_callW (va_runV (As := [.int (nI (k)), .int (nI (mt.2))]) (rest := [.int (nI (k)), .ref (b 10)]) ⟨hx, hb, hml, hown, hts⟩ (mX6_nearnessOf l D b cs (mt.1, 0) ml mr (tk, nn, ro2) k mt.2 hb2 hM (by omega) hg1 hgd.2) (cwV 2 hts gX6_ask_X6_nearnessOf rfl rfl rfl (by decide +kernel) ⟨Nat.le_of_ble_eq_true rfl, Nat.le_of_ble_eq_true rfl⟩) (nz_preV (ci := 6) (q0 := 0) hK hP rfl rfl) rfl rfl hl.1 rfl (lv_room (Nat.le_of_ble_eq_true rfl)) dX6_ask_55 ⟨Nat.zero_le _, Nat.zero_le _⟩) hS (fun _ h => h) (fun H locs hP _ _ hS => ?_)
                  obtain ⟨ro9_8, hP⟩ := hP
                  refine nz_top (y := nI (nrF (qF mt) mt.2 (TM ml k) (ZM ml k))) rfl ?_
                  refine nz_iast (f := nn) (k := k) (v := nrF (qF mt) mt.2 (TM ml k) (ZM ml k)) (ws' := wM b cs (mt.1, 0) ml mr (tk, va_up nn k (nrF (qF mt) mt.2 (TM ml k) (ZM ml k)), ro9_8)) hx hb hK hP (wM_D hb2) hS 10 1 rfl rfl (by omega) (by decide) dX6_ask_58 rfl (fun H locs hP hS => ?_)
                  refine lv_aload_n hx hb dX6_ask_59 rfl (lv_at hl 0 rfl) ?_
                  refine va_get (D := D) (ci := 6) (v := .ref (b 9)) (C := RX6) (T := TX6) (N := 15) hx hb hts hinX6 hown hK hP 0 rfl rfl 12 (by decide) (hts (.fieldLink RX6 36 "TypoSuggesterModel" "isTaken" "[Z") (by decide +kernel)) (fun _ h9 => h9) rfl dX6_ask_60 ?_
                  refine lv_iload hx hb dX6_ask_63 (lv_at hl 4 rfl) ?_
                  refine lv_aload_n hx hb dX6_ask_65 rfl (lv_at hl 0 rfl) ?_
                  refine va_get (D := D) (ci := 6) (v := .ref (b 10)) (C := RX6) (T := TX6) (N := 15) hx hb hts hinX6 hown hK hP 0 rfl rfl 13 (by decide) (hts (.fieldLink RX6 40 "TypoSuggesterModel" "nearness" "[I") (by decide +kernel)) (fun _ h9 => h9) rfl dX6_ask_66 ?_
                  refine lv_iload hx hb dX6_ask_69 (lv_at hl 4 rfl) ?_
                  refine nz_iald (f := va_up nn k (nrF (qF mt) mt.2 (TM ml k) (ZM ml k))) (k := k) hx hb hK hP 10 1 rfl rfl (by omega) (by decide) dX6_ask_71 ?_
                  refine lv_iload_n hx hb dX6_ask_72 rfl (lv_at hl 2 rfl) ?_
                  refine nz_cle (a := (va_up nn k (nrF (qF mt) mt.2 (TM ml k) (ZM ml k))) k) (b := d1) (tgt := 80) hx hb dX6_ask_73 (by decide) (by rw [up_eq]; omega) (by omega) (fun c_73 => ?_) (fun c_73 => ?_)
                  · refine lv_iconst (v := nI 0) hx hb dX6_ask_80 (by decide +kernel) ?_
                    refine nz_top bI_f ?_
                    refine nz_zast (f := tk) (k := k) (v := false) (ws' := wM b cs (mt.1, 0) ml mr (va_up tk k false, va_up nn k (nrF (qF mt) mt.2 (TM ml k) (ZM ml k)), ro9_8)) hx hb hK hP (wM_D hb2) hS 9 3 rfl rfl (by omega) (by decide) dX6_ask_81 rfl (fun H locs hP hS => ?_)
                    refine lv_iinc (v := nI (k + 1)) (lv' := [(4, .int (nI (k + 1))), (0, .ref (b 0)), (1, .int (nI (k1))), (2, .int (nI (d1))), (3, .int (nI (mt.2)))]) hx hb dX6_ask_82 hl (k := 4) rfl (nz_inc1 _) (by decide) rfl (fun ls hl => ?_)
                    refine lv_goto (tgt := 36) hx hb dX6_ask_85 (by decide) ?_
                    exact ih (k + 1) (va_up tk k false) (va_up nn k (nrF (qF mt) mt.2 (TM ml k) (ZM ml k))) ro9_8 (by omega) (fun i hi => by rcases Nat.lt_or_ge i k with h | h; exact (up_ne (by omega)).trans (hnn i h); rw [show i = k by omega]; exact up_eq) (fun i hi => by rcases Nat.lt_or_ge i k with h | h; exact (if_neg (by omega)).trans (htk i h); rw [show i = k by omega]; exact (if_pos rfl).trans (by rw [decide_eq_true (by have h9 := c_73; rw [up_eq] at h9; omega)]; rfl)) (by omega) H locs hP hS ls (lv_sub hl [1, 2, 3, 4, 0] rfl)
                  · refine lv_iconst (v := nI 1) hx hb dX6_ask_76 (by decide +kernel) ?_
                    refine lv_goto (tgt := 81) hx hb dX6_ask_77 (by decide) ?_
                    refine nz_top bI_t ?_
                    refine nz_zast (f := tk) (k := k) (v := true) (ws' := wM b cs (mt.1, 0) ml mr (va_up tk k true, va_up nn k (nrF (qF mt) mt.2 (TM ml k) (ZM ml k)), ro9_8)) hx hb hK hP (wM_D hb2) hS 9 3 rfl rfl (by omega) (by decide) dX6_ask_81 rfl (fun H locs hP hS => ?_)
                    refine lv_iinc (v := nI (k + 1)) (lv' := [(4, .int (nI (k + 1))), (0, .ref (b 0)), (1, .int (nI (k1))), (2, .int (nI (d1))), (3, .int (nI (mt.2)))]) hx hb dX6_ask_82 hl (k := 4) rfl (nz_inc1 _) (by decide) rfl (fun ls hl => ?_)
                    refine lv_goto (tgt := 36) hx hb dX6_ask_85 (by decide) ?_
                    exact ih (k + 1) (va_up tk k true) (va_up nn k (nrF (qF mt) mt.2 (TM ml k) (ZM ml k))) ro9_8 (by omega) (fun i hi => by rcases Nat.lt_or_ge i k with h | h; exact (up_ne (by omega)).trans (hnn i h); rw [show i = k by omega]; exact up_eq) (fun i hi => by rcases Nat.lt_or_ge i k with h | h; exact (if_neg (by omega)).trans (htk i h); rw [show i = k by omega]; exact (if_pos rfl).trans (by rw [decide_eq_false (by have h9 := c_73; rw [up_eq] at h9; omega)]; rfl)) (by omega) H locs hP hS ls (lv_sub hl [1, 2, 3, 4, 0] rfl)
            exact loop (ml.2.2.2.1 - 0 + 1) 0 mk.1 mk.2.1 mk.2.2 (Nat.zero_le _) (fun i h => absurd h (Nat.not_lt_zero _)) (fun i h => absurd h (Nat.not_lt_zero _)) (Nat.lt_succ_self _) H locs hP hS ls (lv_sub hl [2, 3, 4, 1, 0] rfl)
          · have hno : ¬ askOk (nI k1) (nI d1) := fun h => by have h1 := h.2.2.2; rw [nI_clamp hd1] at h1; omega
            refine lv_iconst (v := (-1)) hx hb dX6_ask_31 (by decide +kernel) ?_
            have hz : (bb && b3) = false := by
              cases hbb9 : bb with
              | false => rfl
              | true =>
                cases hb39 : b3 with
                | false => rfl
                | true =>
                  have h9 := hb3.mp hb39
                  first | exact absurd (hbf.symm.trans hbb9) (by decide) | exact absurd h9 hno
            rw [hz] at hret
            exact hret 32 ls H locs dX6_ask_32 ⟨_, _, hR, (fun h => by cases h), fun _ => rfl, hP⟩ hS
