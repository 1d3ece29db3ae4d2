/-! What holds between class and reference at the law's head, and that each call keeps it. -/
abbrev RsT : Type := (Nat → Nat) × (Nat → Nat) × (Nat → Nat) × (Nat → Nat) × (Nat → Nat) × Nat
abbrev MrT : Type := (Nat → Nat) × (Nat → Nat) × (Nat → Nat) × (Nat → Nat) × Nat
def RRel (rs : RsT) (mr : MrT) : Prop := mr.2.2.2.2 = rs.2.2.2.2.2 ∧ ∀ i, i < rs.2.2.2.2.2 → mr.2.1 i = rs.2.2.2.1 i ∧ mr.2.2.1 i = rs.2.1 i ∧ mr.2.2.2.1 i = rs.2.2.1 i ∧ ∀ j, j < rs.2.2.2.1 i → mr.1 (24 * i + j) = rs.2.2.2.2.1 (i * 24 + j)
def LInv (tp : TpT) (wd : (Nat → Nat) × Nat) (lx : LxT) (rs : RsT) (ml : MlT) (mr : MrT) : Prop :=
  tp.2 ≤ 400 ∧ WdB wd ∧ LxI lx ∧ (RsB rs ∧ ∀ j, rs.2.2.1 j ≤ 100) ∧ MlB ml ∧ MrB mr ∧ Rel lx ml ∧ RRel rs mr
theorem lrn_inv {w : Nat} (hw : w ≤ 1000000) {lo : Nat → Nat} (hlo : ∀ i, lo i < 128) : ∀ (m i L : Nat) (lx : LxT) (c : Nat), LxI lx → LxI (lrn (fun y f n => useX y f n w) lo m i L lx c).1
  | 0, i, L, lx, c, h => (useX_inv h ⟨by show min L 24 ≤ 24; omega, fun j => hlo _⟩ (by omega)).1
  | m + 1, i, L, lx, c, h => by
    by_cases e : lo i = 0
    · rw [lrn_0 e]
      exact lrn_inv hw hlo m _ _ _ _ (useX_inv h ⟨by show min L 24 ≤ 24; omega, fun j => hlo _⟩ (by omega)).1
    · rw [lrn_1 e]
      exact lrn_inv hw hlo m _ _ _ _ h
theorem lrnL_inv {lx : LxT} {tp : TpT} {x : Int32} (h : LxI lx) : LxI (lrnL lx tp x) := by
  unfold lrnL
  cases hb : dB (lrnOk x) with
  | false => exact h
  | true => exact lrn_inv (dB_iff.mp hb).2 (fun i => lowN_lt _) _ _ _ _ _ h
theorem lrnT_le {tp : TpT} {x : Int32} (h : tp.2 ≤ 400) : lrnT tp x ≤ 400 := by
  unfold lrnT
  cases dB (lrnOk x) with
  | false => exact h
  | true => exact Nat.zero_le _
theorem good_wd {tp : TpT} (h : goodT tp) : WdB (qF tp, tp.2) ∨ True := Or.inr trivial
theorem good_lt {tp : TpT} (h : goodT tp) : ∀ j, j < tp.2 → qF tp j < 128 := fun j hj => (smB_q (h.2 j hj)).2
/-- letters beyond the query's end don't count -/
def qG (tp : TpT) : Nat → Nat := fun j => if j < tp.2 then qF tp j else 0
theorem qG_eq {tp : TpT} : ∀ j, j < tp.2 → qG tp j = qF tp j := fun j hj => if_pos hj
theorem qG_wd {tp : TpT} (h : goodT tp) : WdB (qG tp, tp.2) := ⟨h.1, fun j => by
  show qG tp j < 128
  unfold qG
  split
  · rename_i hj
    exact good_lt h j hj
  · decide⟩
theorem lxI_ins2 {lx : LxT} {tp : TpT} {r wt : Nat} (hI : LxI lx) (hg : goodT tp) (h0 : 0 < tp.2) (hr : roomX lx tp.2) (hp : PLp lx (qF tp) tp.2 r) (hs : ¬ stdX lx (qF tp) tp.2 r) (hw : wt ≤ 1000000000000) : LxI (lxIns lx (qF tp, tp.2) r wt) := by
  rw [← lxIns_congr (f := qG tp) qG_eq]
  exact lxI_ins (wd := (qG tp, tp.2)) hI (qG_wd hg) h0 hr (plp_congr hp ⟨rfl, qG_eq⟩) (fun z => hs ((stdX_congr2 ⟨rfl, qG_eq⟩).mpr z)) hw
theorem lW_le {x : Int64} (h : setOk x) : lW x ≤ 1000000000000 := by
  obtain ⟨k, hk, rfl⟩ := pk_lOf h.1
  rw [lW_lN hk]
  have h2 := h.2
  rw [pk_lLT (by decide) hk] at h2
  omega
/-- set, drop -/
theorem set_inv {lx : LxT} {ml ml9 : MlT} {tp : TpT} {x : Int64} {r : Nat} {bb b1 b2 b3 : Bool} (hI : LxI lx) (hR : Rel lx ml) (hbb : bb = true ↔ (goodT tp ∧ 0 < tp.2)) (hp : PLp lx (qF tp) tp.2 r) (hb1 : b1 = true ↔ stdX lx (qF tp) tp.2 r) (hb2 : b2 = true ↔ roomX lx tp.2) (hb3 : b3 = true ↔ setOk x)
    (h1 : (bb && b3) = false → ml9 = ml) (h2 : (bb && b3) = true → (b1 = true → ml9 = mlSet ml r (lW x)) ∧ (b1 = false → (b2 = true → VIns ml.2.2.2.1 r (ZM ml) (TM ml) ml.2.2.1 (ZM ml9) (TM ml9) ml9.2.2.1 (qF tp) tp.2 (lW x) ∧ ml9.2.2.2.1 = ml.2.2.2.1 + 1 ∧ ml9.2.2.2.2 = ml.2.2.2.2 + tp.2) ∧ (b2 = false → ml9 = ml))) :
    LxI (bif (bb && b3) then (bif b1 then lxSet lx r (lW x) else (bif b2 then lxIns lx (qF tp, tp.2) r (lW x) else lx)) else lx) ∧ Rel (bif (bb && b3) then (bif b1 then lxSet lx r (lW x) else (bif b2 then lxIns lx (qF tp, tp.2) r (lW x) else lx)) else lx) ml9 := by
  cases hz : (bb && b3) with
  | false =>
    rw [h1 hz]
    exact ⟨hI, hR⟩
  | true =>
    have hbt : bb = true := by cases bb with | true => rfl | false => cases hz
    have hb3t : b3 = true := by cases b3 with | true => rfl | false => rw [Bool.and_false] at hz; cases hz
    have hg := hbb.mp hbt
    have hw := lW_le (hb3.mp hb3t)
    obtain ⟨g1, g2⟩ := h2 hz
    cases hb : b1 with
    | true =>
      rw [g1 hb]
      exact ⟨lxI_set hI hw, rel_set hR⟩
    | false =>
      cases hc : b2 with
      | false =>
        rw [(g2 hb).2 hc]
        exact ⟨hI, hR⟩
      | true =>
        obtain ⟨v1, v2, v3⟩ := (g2 hb).1 hc
        exact ⟨lxI_ins2 hI hg.1 hg.2 (hb2.mp hc) hp (fun z => by rw [hb1.mpr z] at hb; cases hb) hw, rel_ins hI.1 hR hp.1 v1 v2 v3⟩
theorem drop_inv {lx : LxT} {ml ml9 : MlT} {tp : TpT} {r : Nat} {bz b1 : Bool} (hI : LxI lx) (hR : Rel lx ml) (hb1 : b1 = true ↔ stdX lx (qF tp) tp.2 r) (hz1 : bz = true → b1 = true)
    (h1 : bz = false → ml9 = ml) (h2 : bz = true → VDel ml.2.2.2.1 r (ZM ml) (TM ml) ml.2.2.1 (ZM ml9) (TM ml9) ml9.2.2.1 ∧ ml9.2.2.2.1 = ml.2.2.2.1 - 1 ∧ ml9.2.2.2.2 = ml.2.2.2.2 - tp.2) :
    LxI (bif bz then lxDel lx r else lx) ∧ Rel (bif bz then lxDel lx r else lx) ml9 := by
  cases hz : bz with
  | false =>
    rw [h1 hz]
    exact ⟨hI, hR⟩
  | true =>
    obtain ⟨v1, v2, v3⟩ := h2 hz
    have hs := hb1.mp (hz1 hz)
    exact ⟨lxI_del hI hs.1, rel_del hI.1 hR hs.1 hs.2.1 v1 v2 v3⟩
theorem rel_size {lx : LxT} {ml : MlT} {f : Nat → Nat} {n r : Nat} (hI : LxI lx) (hR : Rel lx ml) (hs : stdX lx f n r) : n ≤ ml.2.2.2.2 := by
  rw [hR.2.2]
  have h1 := lx_mono hI.1 (r + 1) lx.2.2.2 hs.1 (Nat.le_refl _)
  have h2 := hs.2.1
  omega
theorem rel_near {lx : LxT} {ml : MlT} {q : Nat → Nat} {n d : Nat} (hR : Rel lx ml) : cntF (fun i => decide (nrF q n (TX lx i) (ZX lx i) ≤ d)) lx.2.2.2 = cntF (fun i => decide (nrF q n (TM ml i) (ZM ml i) ≤ d)) ml.2.2.2.1 := by
  rw [hR.1]
  exact cntF_congr (fun i hi => by rw [rel_nr hR hi])
theorem rel_best {lx : LxT} {ml : MlT} {q : Nat → Nat} {n : Nat} (hR : Rel lx ml) : mx1 (fun i => dB (begF q n (TX lx i) (ZX lx i))) lx.2.2.1 lx.2.2.2 = mx1 (fun i => dB (begF q n (TM ml i) (ZM ml i))) ml.2.2.1 ml.2.2.2.1 := by
  rw [hR.1]
  refine mx1_congr (fun i hi => dB_congr ?_) (fun i hi => (hR.2.1 i hi).2.2.symm)
  obtain ⟨q1, q2, _⟩ := hR.2.1 i hi
  unfold begF
  show (n ≤ ZX lx i ∧ _) ↔ (n ≤ ml.2.1 i ∧ _)
  rw [q1]
  exact ⟨fun z => ⟨z.1, fun j hj => (q2 j (Nat.lt_of_lt_of_le hj z.1)).trans (z.2 j hj)⟩, fun z => ⟨z.1, fun j hj => (q2 j (Nat.lt_of_lt_of_le hj z.1)).symm.trans (z.2 j hj)⟩⟩
theorem rel_rank {lx : LxT} {ml : MlT} {r : Nat} (hR : Rel lx ml) (hr : r < lx.2.2.2) : cntF (fun j => decide (lx.2.2.1 r < lx.2.2.1 j ∨ (lx.2.2.1 j = lx.2.2.1 r ∧ j < r))) lx.2.2.2 = cntF (fun j => decide (ml.2.2.1 r < ml.2.2.1 j ∨ (ml.2.2.1 j = ml.2.2.1 r ∧ j < r))) ml.2.2.2.1 := by
  rw [hR.1]
  exact cntF_congr (fun i hi => by rw [(hR.2.1 i hi).2.2, (hR.2.1 r hr).2.2])
theorem rel_term {lx : LxT} {ml : MlT} (hR : Rel lx ml) (i j : Int32) : termF lx.2.2.2 (ZX lx) (TX lx) i j = termF ml.2.2.2.1 ml.2.1 (fun x y => ml.1 (24 * x + y)) i j := by
  rw [hR.1]
  exact termF_congr (fun i hi => (hR.2.1 i hi).1.symm) (fun i k hi hk => ((hR.2.1 i hi).2.1 k hk).symm) i j
theorem rrel_letter {rs : RsT} {mr : MrT} (hR : RRel rs mr) (i j : Int32) : termF rs.2.2.2.2.2 rs.2.2.2.1 (fun x y => rs.2.2.2.2.1 (x * 24 + y)) i j = termF mr.2.2.2.2 mr.2.1 (fun x y => mr.1 (24 * x + y)) i j := by
  rw [hR.1]
  exact termF_congr (fun i hi => (hR.2 i hi).1.symm) (fun i k hi hk => ((hR.2 i hi).2.2.2 k hk).symm) i j
theorem rrel_of {rs : RsT} {mr : MrT} (hR : RRel rs mr) (i y : Int32) : ofL rs.2.2.2.2.2 rs.2.2.2.1 rs.2.1 rs.2.2.1 i y = ofL mr.2.2.2.2 mr.2.1 mr.2.2.1 mr.2.2.2.1 i y := by
  rw [hR.1]
  exact ofL_congr (fun i hi => ⟨(hR.2 i hi).1.symm, (hR.2 i hi).2.1.symm, (hR.2 i hi).2.2.1.symm⟩) i y
/-- how many different rows terms begin with -/
theorem sh_ex (lx : LxT) : ∃ sh : Nat → Nat, ∀ i, IsLcp (TX lx i) (TX lx (i + 1)) (min (ZX lx i) (ZX lx (i + 1))) (sh i) :=
  ⟨fun i => Classical.choose (lcp_ex (TX lx i) (TX lx (i + 1)) (min (ZX lx i) (ZX lx (i + 1)))), fun i => Classical.choose_spec (lcp_ex (TX lx i) (TX lx (i + 1)) (min (ZX lx i) (ZX lx (i + 1))))⟩
theorem rel_sh {lx : LxT} {ml : MlT} {sh : Nat → Nat} (hR : Rel lx ml) (h : ∀ i, IsLcp (TX lx i) (TX lx (i + 1)) (min (ZX lx i) (ZX lx (i + 1))) (sh i)) : ∀ i, i + 1 < ml.2.2.2.1 → IsLcp (TM ml i) (TM ml (i + 1)) (min (ml.2.1 i) (ml.2.1 (i + 1))) (sh i) := fun i hi => by
  rw [hR.1] at hi
  obtain ⟨q1, q2, _⟩ := hR.2.1 i (by omega)
  obtain ⟨p1, p2, _⟩ := hR.2.1 (i + 1) hi
  rw [q1, p1]
  exact lcp_congr (fun j hj => (q2 j (by omega)).symm) (fun j hj => (p2 j (by omega)).symm) (h i)
theorem sum_pre {lx : LxT} {ml : MlT} {sh : Nat → Nat} (hI : LxI lx) (hR : Rel lx ml) (h : ∀ i, IsLcp (TX lx i) (TX lx (i + 1)) (min (ZX lx i) (ZX lx (i + 1))) (sh i)) : ∀ k, k < lx.2.2.2 → sumF (fun t => ml.2.1 t - (if t = 0 then 0 else sh (t - 1))) (k + 1) + sumF sh k = lx.2.1 (k + 1)
  | 0, hk => by
    show (0 + (ml.2.1 0 - 0)) + 0 = _
    have q := (hR.2.1 0 hk).1
    have h0 := hI.2.1
    have q : ml.2.1 0 = lx.2.1 (0 + 1) - lx.2.1 0 := q
    omega
  | k + 1, hk => by
    have ih := sum_pre hI hR h k (by omega)
    have q : ml.2.1 (k + 1) = lx.2.1 (k + 1 + 1) - lx.2.1 (k + 1) := (hR.2.1 (k + 1) hk).1
    have g1 := (h k).1
    have g1 : sh k ≤ min (lx.2.1 (k + 1) - lx.2.1 k) (lx.2.1 (k + 1 + 1) - lx.2.1 (k + 1)) := g1
    have g2 := (hI.2.2.1 (k + 1) hk).1
    show (sumF (fun t => ml.2.1 t - (if t = 0 then 0 else sh (t - 1))) (k + 1) + (ml.2.1 (k + 1) - (if k + 1 = 0 then 0 else sh (k + 1 - 1)))) + (sumF sh k + sh k) = _
    rw [if_neg (by omega), show k + 1 - 1 = k from rfl]
    omega
theorem rel_pre {lx : LxT} {ml : MlT} {sh : Nat → Nat} (hI : LxI lx) (hR : Rel lx ml) (h : ∀ i, IsLcp (TX lx i) (TX lx (i + 1)) (min (ZX lx i) (ZX lx (i + 1))) (sh i)) : (if lx.2.2.2 = 0 then 0 else 1 + lx.2.1 lx.2.2.2 - sumF sh (lx.2.2.2 - 1)) = (if ml.2.2.2.1 = 0 then 0 else 1) + sumF (fun t => ml.2.1 t - (if t = 0 then 0 else sh (t - 1))) ml.2.2.2.1 := by
  rw [hR.1]
  by_cases e : lx.2.2.2 = 0
  · rw [if_pos e, if_pos e, e]
    rfl
  · rw [if_neg e, if_neg e]
    have := sum_pre hI hR h (lx.2.2.2 - 1) (by omega)
    rw [show lx.2.2.2 - 1 + 1 = lx.2.2.2 by omega] at this
    omega
theorem rel_top {lx : LxT} {ml : MlT} {q : Nat → Nat} {n d k : Nat} {pl : Nat → Nat} {c : Nat} (hR : Rel lx ml) (h : IsTop lx.2.2.2 (fun i => decide (nrF q n (TX lx i) (ZX lx i) ≤ d)) lx.2.2.1 k pl c) : IsTop ml.2.2.2.1 (fun i => decide (nrF q n (TM ml i) (ZM ml i) ≤ d)) ml.2.2.1 k pl c := by
  rw [hR.1]
  exact top_congr (fun i hi => by rw [rel_nr hR hi]) (fun i hi => (hR.2.1 i hi).2.2.symm) h
theorem ask_inv {lx : LxT} {ml : MlT} {tp : TpT} {pl : Nat → Nat} {cn k : Nat} {P : Nat → Bool} {rs rs2 : RsT} {mr mr9 : MrT} {bz : Bool} (hI : LxI lx) (hR : Rel lx ml) (hRR : RRel rs mr) (ht : bz = true → IsTop lx.2.2.2 P lx.2.2.1 k pl cn)
    (h1 : bz = true → RsIs lx (fun i => nrF (qF tp) tp.2 (TX lx i) (ZX lx i)) pl cn rs2) (h2 : bz = false → rs2 = rs) (g1 : bz = true → MrIs ml (fun i => nrF (qF tp) tp.2 (TM ml i) (ZM ml i)) pl cn mr9) (g2 : bz = false → mr9 = mr) : RRel rs2 mr9 := by
  cases hz : bz with
  | false =>
    rw [h2 hz, g2 hz]
    exact hRR
  | true =>
    obtain ⟨u1, u2⟩ := h1 hz
    obtain ⟨w1, w2⟩ := g1 hz
    refine ⟨by rw [u1, w1], fun i hi => ?_⟩
    rw [u1] at hi
    obtain ⟨a1, a2, a3, a4⟩ := u2 i hi
    obtain ⟨c1, c2, c3, c4⟩ := w2 i hi
    have hpl := ((ht hz).2.1 i hi).1
    obtain ⟨q1, q2, q3⟩ := hR.2.1 (pl i) hpl
    have hz24 : ZX lx (pl i) ≤ 24 := by
      have := (hI.2.2.1 (pl i) hpl).2
      show lx.2.1 (pl i + 1) - lx.2.1 (pl i) ≤ 24
      omega
    refine ⟨by rw [c1, a3, q1], by rw [c2, a1, q3], ?_, fun j hj => ?_⟩
    · rw [c3, a2]
      exact rel_nr hR hpl
    · rw [a3] at hj
      rw [c4 j (by omega), a4 j hj]
      exact q2 j hj
/-- the one's cells stay where the other's alone were written -/
theorem keepM {D : va_G} {a b : Nat → Nat} {cs : Nat → ClassId} {mt : TpT} {ml : MlT} {mr : MrT} {mk : (Nat → Bool) × (Nat → Nat) × (Nat → Nat)} {H H1 : Heap} (h : va_P D vwCl (wM b cs mt ml mr mk) H) (hk : ∀ q : Nat, q < H.size → ¬ inX a q → H1[q]? = H[q]?) (hab : ∀ i j, i < 17 → j < 12 → a i ≠ b j) : va_P D vwCl (wM b cs mt ml mr mk) H1 :=
  h.kept (fun k q hq => hk q.1 ((h k q hq).lt) (fun ⟨i, hi, e⟩ => hab i k hi (wM_at hq).1 (by rw [← e, (wM_at hq).2])))
theorem keepX {D : va_G} {a b : Nat → Nat} {cs : Nat → ClassId} {tp : TpT} {wd : (Nat → Nat) × Nat} {lx : LxT} {ro : Nat → Nat} {rs : RsT} {H H1 : Heap} (h : va_P D vwCl (wX a cs tp wd lx ro rs) H) (hk : ∀ q : Nat, q < H.size → ¬ inM b q → H1[q]? = H[q]?) (hab : ∀ i j, i < 17 → j < 12 → a i ≠ b j) : va_P D vwCl (wX a cs tp wd lx ro rs) H1 :=
  h.kept (fun k q hq => hk q.1 ((h k q hq).lt) (fun ⟨i, hi, e⟩ => hab k i (wX_at hq).1 hi (by rw [← e, (wX_at hq).2])))
