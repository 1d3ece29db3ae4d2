/-! The worlds: the cells of one TypoSuggester (addresses a 0 .. a 16) and of one TypoSuggesterModel (b 0 .. b 11). -/
abbrev tyX (cs : Nat → ClassId) : List (ClassId × FieldType) := [(cs 0, .byte), (cs 1, .int), (cs 2, .long), (cs 3, .boolean)]
abbrev wX (a : Nat → Nat) (cs : Nat → ClassId) (tp : (Nat → Int32) × Nat) (wd : (Nat → Nat) × Nat) (lx : (Nat → Nat) × (Nat → Nat) × (Nat → Nat) × Nat) (ro : Nat → Nat) (rs : (Nat → Nat) × (Nat → Nat) × (Nat → Nat) × (Nat → Nat) × (Nat → Nat) × Nat) : va_W := [(a 0, .inr (5, [.ref (a 1), .ref (a 2), .ref (a 3), .ref (a 4), .ref (a 5)])),
  (a 1, .inr (3, [.ref (a 6), .int (nI (tp.2))])),
  (a 2, .inr (4, [.ref (a 7), .int (nI (wd.2))])),
  (a 3, .inr (0, [.ref (a 8), .ref (a 9), .ref (a 10), .int (nI (lx.2.2.2))])),
  (a 4, .inr (1, [.ref (a 11)])),
  (a 5, .inr (2, [.ref (a 12), .ref (a 13), .ref (a 14), .ref (a 15), .ref (a 16), .int (nI (rs.2.2.2.2.2))])),
  (a 6, .inl (cs 0, 400, .inl tp.1)),
  (a 7, .inl (cs 0, 24, .inl (fun j => nI (wd.1 j)))),
  (a 8, .inl (cs 0, 6000, .inl (fun j => nI (lx.1 j)))),
  (a 9, .inl (cs 1, 601, .inl (fun j => nI (lx.2.1 j)))),
  (a 10, .inl (cs 2, 600, .inr (.inl (fun j => lN (lx.2.2.1 j))))),
  (a 11, .inl (cs 1, 25, .inl (fun j => nI (ro j)))),
  (a 12, .inl (cs 1, 50, .inl (fun j => nI (rs.1 j)))),
  (a 13, .inl (cs 2, 50, .inr (.inl (fun j => lN (rs.2.1 j))))),
  (a 14, .inl (cs 1, 50, .inl (fun j => nI (rs.2.2.1 j)))),
  (a 15, .inl (cs 1, 50, .inl (fun j => nI (rs.2.2.2.1 j)))),
  (a 16, .inl (cs 0, 1200, .inl (fun j => nI (rs.2.2.2.2.1 j))))]
def inX (a : Nat → Nat) (q : Nat) : Prop := ∃ k, k < 17 ∧ q = a k
def wInj (a : Nat → Nat) : Prop := ∀ i j, i < 17 → j < 17 → a i = a j → i = j
theorem wX_at {a : Nat → Nat} {cs : Nat → ClassId} {tp : (Nat → Int32) × Nat} {wd : (Nat → Nat) × Nat} {lx : (Nat → Nat) × (Nat → Nat) × (Nat → Nat) × Nat} {ro : Nat → Nat} {rs : (Nat → Nat) × (Nat → Nat) × (Nat → Nat) × (Nat → Nat) × (Nat → Nat) × Nat} {k : Nat} {q : Nat × va_E} (h : (wX a cs tp wd lx ro rs)[k]? = some q) : k < 17 ∧ q.1 = a k := by
  match k, h with
  | 0, h => cases h; exact ⟨by decide, rfl⟩
  | 1, h => cases h; exact ⟨by decide, rfl⟩
  | 2, h => cases h; exact ⟨by decide, rfl⟩
  | 3, h => cases h; exact ⟨by decide, rfl⟩
  | 4, h => cases h; exact ⟨by decide, rfl⟩
  | 5, h => cases h; exact ⟨by decide, rfl⟩
  | 6, h => cases h; exact ⟨by decide, rfl⟩
  | 7, h => cases h; exact ⟨by decide, rfl⟩
  | 8, h => cases h; exact ⟨by decide, rfl⟩
  | 9, h => cases h; exact ⟨by decide, rfl⟩
  | 10, h => cases h; exact ⟨by decide, rfl⟩
  | 11, h => cases h; exact ⟨by decide, rfl⟩
  | 12, h => cases h; exact ⟨by decide, rfl⟩
  | 13, h => cases h; exact ⟨by decide, rfl⟩
  | 14, h => cases h; exact ⟨by decide, rfl⟩
  | 15, h => cases h; exact ⟨by decide, rfl⟩
  | 16, h => cases h; exact ⟨by decide, rfl⟩
  | k + 17, h => simp [wX] at h
theorem wX_D {a : Nat → Nat} {cs : Nat → ClassId} {tp : (Nat → Int32) × Nat} {wd : (Nat → Nat) × Nat} {lx : (Nat → Nat) × (Nat → Nat) × (Nat → Nat) × Nat} {ro : Nat → Nat} {rs : (Nat → Nat) × (Nat → Nat) × (Nat → Nat) × (Nat → Nat) × (Nat → Nat) × Nat} (ha : wInj a) : va_D (inX a) (wX a cs tp wd lx ro rs) :=
  ⟨fun i j p q hp hq e => ha i j (wX_at hp).1 (wX_at hq).1 (by rw [← (wX_at hp).2, ← (wX_at hq).2]; exact e), fun k q hk => ⟨k, (wX_at hk).1, (wX_at hk).2⟩⟩
abbrev wM (b : Nat → Nat) (cs : Nat → ClassId) (mt : (Nat → Int32) × Nat) (ml : (Nat → Nat) × (Nat → Nat) × (Nat → Nat) × Nat × Nat) (mr : (Nat → Nat) × (Nat → Nat) × (Nat → Nat) × (Nat → Nat) × Nat) (mk : (Nat → Bool) × (Nat → Nat) × (Nat → Nat)) : va_W := [(b 0, .inr (6, [.ref (b 1), .int (nI (mt.2)), .int (nI (ml.2.2.2.1)), .int (nI (ml.2.2.2.2)), .ref (b 2), .ref (b 3), .ref (b 4), .int (nI (mr.2.2.2.2)), .ref (b 5), .ref (b 6), .ref (b 7), .ref (b 8), .ref (b 9), .ref (b 10), .ref (b 11)])),
  (b 1, .inl (cs 0, 400, .inl mt.1)),
  (b 2, .inl (cs 0, 14424, .inl (fun j => nI (ml.1 j)))),
  (b 3, .inl (cs 1, 601, .inl (fun j => nI (ml.2.1 j)))),
  (b 4, .inl (cs 2, 601, .inr (.inl (fun j => lN (ml.2.2.1 j))))),
  (b 5, .inl (cs 0, 1200, .inl (fun j => nI (mr.1 j)))),
  (b 6, .inl (cs 1, 50, .inl (fun j => nI (mr.2.1 j)))),
  (b 7, .inl (cs 2, 50, .inr (.inl (fun j => lN (mr.2.2.1 j))))),
  (b 8, .inl (cs 1, 50, .inl (fun j => nI (mr.2.2.2.1 j)))),
  (b 9, .inl (cs 3, 600, .inl (fun j => bI (mk.1 j)))),
  (b 10, .inl (cs 1, 600, .inl (fun j => nI (mk.2.1 j)))),
  (b 11, .inl (cs 1, 25, .inl (fun j => nI (mk.2.2 j))))]
def inM (b : Nat → Nat) (q : Nat) : Prop := ∃ k, k < 12 ∧ q = b k
def wInjM (b : Nat → Nat) : Prop := ∀ i j, i < 12 → j < 12 → b i = b j → i = j
theorem wM_at {b : Nat → Nat} {cs : Nat → ClassId} {mt : (Nat → Int32) × Nat} {ml : (Nat → Nat) × (Nat → Nat) × (Nat → Nat) × Nat × Nat} {mr : (Nat → Nat) × (Nat → Nat) × (Nat → Nat) × (Nat → Nat) × Nat} {mk : (Nat → Bool) × (Nat → Nat) × (Nat → Nat)} {k : Nat} {q : Nat × va_E} (h : (wM b cs mt ml mr mk)[k]? = some q) : k < 12 ∧ q.1 = b k := by
  match k, h with
  | 0, h => cases h; exact ⟨by decide, rfl⟩
  | 1, h => cases h; exact ⟨by decide, rfl⟩
  | 2, h => cases h; exact ⟨by decide, rfl⟩
  | 3, h => cases h; exact ⟨by decide, rfl⟩
  | 4, h => cases h; exact ⟨by decide, rfl⟩
  | 5, h => cases h; exact ⟨by decide, rfl⟩
  | 6, h => cases h; exact ⟨by decide, rfl⟩
  | 7, h => cases h; exact ⟨by decide, rfl⟩
  | 8, h => cases h; exact ⟨by decide, rfl⟩
  | 9, h => cases h; exact ⟨by decide, rfl⟩
  | 10, h => cases h; exact ⟨by decide, rfl⟩
  | 11, h => cases h; exact ⟨by decide, rfl⟩
  | k + 12, h => simp [wM] at h
theorem wM_D {b : Nat → Nat} {cs : Nat → ClassId} {mt : (Nat → Int32) × Nat} {ml : (Nat → Nat) × (Nat → Nat) × (Nat → Nat) × Nat × Nat} {mr : (Nat → Nat) × (Nat → Nat) × (Nat → Nat) × (Nat → Nat) × Nat} {mk : (Nat → Bool) × (Nat → Nat) × (Nat → Nat)} (ha : wInjM b) : va_D (inM b) (wM b cs mt ml mr mk) :=
  ⟨fun i j p q hp hq e => ha i j (wM_at hp).1 (wM_at hq).1 (by rw [← (wM_at hp).2, ← (wM_at hq).2]; exact e), fun k q hk => ⟨k, (wM_at hk).1, (wM_at hk).2⟩⟩
section NB
variable {p : Program} {l : Launch} {e : Env} {R : Room} {s : State} {m : MethodId} {args : Array Value} {below : List Frame} {meth : Method} {c : Code} {H : Heap} {locs : List Loc} {cells slots : Nat} {Q : State → Prop}
variable {cc : ByteArray} {pc : Nat} {ls : Array Slot} {rest : List Value}
theorem nz_mmin (hexec : p.tables.exec = Jvm.exec) (hb : c.code = cc) (hml : c.maxLocals = ls.size) {own : String} {index : Nat} (hown : s.vm.findClass own = some m.cls) (hlink : (Cond.methodLink own index Lib.Math.min.name).before args s = true) (hstat : (Cond.static Lib.Math.min.name).before args s = true) (hini : (Cond.initialized "java/lang/Math").before args s = true) (hcode : (Cond.code Lib.Math.min.name Lib.Math.min.code 2 (some .int)).before args s = true) (hframes : 1 ≤ R.frames) (hlocals : (rest.map fun v => v.category).sum + 13 ≤ R.locals) (hc : cells ≤ R.cells) (hs : slots ≤ R.slots) {a b : Nat} (ha : a < 2 ^ 31) (hb2 : b < 2 ^ 31) (hdg : decode cc pc = .ok (.invokestatic index, 3)) (kk : W p l e R s m args below meth c H locs cells slots Q (F0 m (pc + 3) ls (.int (nI (min a b)) :: rest))) : W p l e R s m args below meth c H locs cells slots Q (F0 m pc ls (.int (nI b) :: .int (nI a) :: rest)) := by
  refine va_mmin hexec hb hml hown hlink hstat hini hcode hframes hlocals hc hs hdg ?_
  refine nz_top (y := nI (min a b)) ?_ kk
  by_cases h : b < a
  · rw [if_pos ((nI_ltI hb2 ha).mpr h), Nat.min_eq_right (Nat.le_of_lt h)]
  · rw [if_neg (fun z => h ((nI_ltI hb2 ha).mp z)), Nat.min_eq_left (Nat.le_of_not_lt h)]
theorem nz_mminl (hexec : p.tables.exec = Jvm.exec) (hb : c.code = cc) (hml : c.maxLocals = ls.size) {own : String} {index : Nat} (hown : s.vm.findClass own = some m.cls) (hlink : (Cond.methodLink own index Lib.MathLoose.min_long.x).before args s = true) (hstat : (Cond.static Lib.MathLoose.min_long.x).before args s = true) (hini : (Cond.initialized "java/lang/Math").before args s = true) (hcode : (Cond.code Lib.MathLoose.min_long.x Lib.MathLoose.min_long.code 4 (some .long)).before args s = true) (hframes : 1 ≤ R.frames) (hlocals : (rest.map fun v => v.category).sum + 15 ≤ R.locals) (hc : cells ≤ R.cells) (hs : slots ≤ R.slots) {a b : Nat} (ha : a < 2 ^ 63) (hb2 : b < 2 ^ 63) (hdg : decode cc pc = .ok (.invokestatic index, 3)) (kk : W p l e R s m args below meth c H locs cells slots Q (F0 m (pc + 3) ls (.long (lN (min a b)) :: rest))) : W p l e R s m args below meth c H locs cells slots Q (F0 m pc ls (.long (lN b) :: .long (lN a) :: rest)) := by
  refine va_mmin_long hexec hb hml hown hlink hstat hini hcode hframes hlocals hc hs hdg ?_
  refine nz_topl (y := lN (min a b)) ?_ kk
  by_cases h : b < a
  · rw [if_pos ((pk_lLT hb2 ha).mpr h), Nat.min_eq_right (Nat.le_of_lt h)]
  · rw [if_neg (fun z => h ((pk_lLT hb2 ha).mp z)), Nat.min_eq_left (Nat.le_of_not_lt h)]
theorem nz_mmaxl (hexec : p.tables.exec = Jvm.exec) (hb : c.code = cc) (hml : c.maxLocals = ls.size) {own : String} {index : Nat} (hown : s.vm.findClass own = some m.cls) (hlink : (Cond.methodLink own index Lib.MathLoose.max_long.x).before args s = true) (hstat : (Cond.static Lib.MathLoose.max_long.x).before args s = true) (hini : (Cond.initialized "java/lang/Math").before args s = true) (hcode : (Cond.code Lib.MathLoose.max_long.x Lib.MathLoose.max_long.code 4 (some .long)).before args s = true) (hframes : 1 ≤ R.frames) (hlocals : (rest.map fun v => v.category).sum + 15 ≤ R.locals) (hc : cells ≤ R.cells) (hs : slots ≤ R.slots) {a b : Nat} (ha : a < 2 ^ 63) (hb2 : b < 2 ^ 63) (hdg : decode cc pc = .ok (.invokestatic index, 3)) (kk : W p l e R s m args below meth c H locs cells slots Q (F0 m (pc + 3) ls (.long (lN (max a b)) :: rest))) : W p l e R s m args below meth c H locs cells slots Q (F0 m pc ls (.long (lN b) :: .long (lN a) :: rest)) := by
  refine va_mmax_long hexec hb hml hown hlink hstat hini hcode hframes hlocals hc hs hdg ?_
  refine nz_topl (y := lN (max a b)) ?_ kk
  by_cases h : b < a
  · rw [if_pos ((pk_lLT hb2 ha).mpr h), Nat.max_eq_left (Nat.le_of_lt h)]
  · rw [if_neg (fun z => h ((pk_lLT hb2 ha).mp z)), Nat.max_eq_right (Nat.le_of_not_lt h)]
theorem nz_llt {a b : Nat} {off : Int} {tgt : Nat} (hexec : p.tables.exec = Jvm.exec) (hb : c.code = cc) (hdg : decode cc pc = .ok (.ifCond .lt off, 3)) (ht : (pc : Int) + off = (tgt : Int)) (ha : a < 2 ^ 63) (hb2 : b < 2 ^ 63) (kt : a < b → W p l e R s m args below meth c H locs cells slots Q (F0 m tgt ls rest)) (kf : b ≤ a → W p l e R s m args below meth c H locs cells slots Q (F0 m (pc + 3) ls rest)) : W p l e R s m args below meth c H locs cells slots Q (F0 m pc ls (.int (lg_cmp (lN a) (lN b)) :: rest)) := by
  rcases Nat.lt_trichotomy a b with h | h | h
  · have e1 : lg_cmp (lN a) (lN b) = -1 := by have h1 : ¬ lN b < lN a := fun z => Nat.lt_asymm h ((pk_lLT hb2 ha).mp z); have h2 : ¬ lN a = lN b := fun z => Nat.ne_of_lt h ((pk_lEQ ha hb2).mp z); simp [lg_cmp, h1, h2]
    rw [e1]
    exact lv_if_lt hexec hb hdg ht (fun z => kt (by omega)) (fun z => by first | exact absurd z (by decide) | exact absurd (by decide) z)
  · have e1 : lg_cmp (lN a) (lN b) = 0 := by subst h; simp [lg_cmp]
    rw [e1]
    exact lv_if_lt hexec hb hdg ht (fun z => by first | exact absurd z (by decide) | exact absurd (by decide) z) (fun z => kf (by omega))
  · have e1 : lg_cmp (lN a) (lN b) = 1 := by have h1 : lN b < lN a := (pk_lLT hb2 ha).mpr h; simp [lg_cmp, h1]
    rw [e1]
    exact lv_if_lt hexec hb hdg ht (fun z => by first | exact absurd z (by decide) | exact absurd (by decide) z) (fun z => kf (by omega))
theorem nz_lge {a b : Nat} {off : Int} {tgt : Nat} (hexec : p.tables.exec = Jvm.exec) (hb : c.code = cc) (hdg : decode cc pc = .ok (.ifCond .ge off, 3)) (ht : (pc : Int) + off = (tgt : Int)) (ha : a < 2 ^ 63) (hb2 : b < 2 ^ 63) (kt : b ≤ a → W p l e R s m args below meth c H locs cells slots Q (F0 m tgt ls rest)) (kf : a < b → W p l e R s m args below meth c H locs cells slots Q (F0 m (pc + 3) ls rest)) : W p l e R s m args below meth c H locs cells slots Q (F0 m pc ls (.int (lg_cmp (lN a) (lN b)) :: rest)) := by
  rcases Nat.lt_trichotomy a b with h | h | h
  · have e1 : lg_cmp (lN a) (lN b) = -1 := by have h1 : ¬ lN b < lN a := fun z => Nat.lt_asymm h ((pk_lLT hb2 ha).mp z); have h2 : ¬ lN a = lN b := fun z => Nat.ne_of_lt h ((pk_lEQ ha hb2).mp z); simp [lg_cmp, h1, h2]
    rw [e1]
    exact lv_if_ge hexec hb hdg ht (fun z => by first | exact absurd z (by decide) | exact absurd (by decide) z) (fun z => kf (by omega))
  · have e1 : lg_cmp (lN a) (lN b) = 0 := by subst h; simp [lg_cmp]
    rw [e1]
    exact lv_if_ge hexec hb hdg ht (fun z => kt (by omega)) (fun z => by first | exact absurd z (by decide) | exact absurd (by decide) z)
  · have e1 : lg_cmp (lN a) (lN b) = 1 := by have h1 : lN b < lN a := (pk_lLT hb2 ha).mpr h; simp [lg_cmp, h1]
    rw [e1]
    exact lv_if_ge hexec hb hdg ht (fun z => kt (by omega)) (fun z => by first | exact absurd z (by decide) | exact absurd (by decide) z)
theorem nz_lgt {a b : Nat} {off : Int} {tgt : Nat} (hexec : p.tables.exec = Jvm.exec) (hb : c.code = cc) (hdg : decode cc pc = .ok (.ifCond .gt off, 3)) (ht : (pc : Int) + off = (tgt : Int)) (ha : a < 2 ^ 63) (hb2 : b < 2 ^ 63) (kt : b < a → W p l e R s m args below meth c H locs cells slots Q (F0 m tgt ls rest)) (kf : a ≤ b → W p l e R s m args below meth c H locs cells slots Q (F0 m (pc + 3) ls rest)) : W p l e R s m args below meth c H locs cells slots Q (F0 m pc ls (.int (lg_cmp (lN a) (lN b)) :: rest)) := by
  rcases Nat.lt_trichotomy a b with h | h | h
  · have e1 : lg_cmp (lN a) (lN b) = -1 := by have h1 : ¬ lN b < lN a := fun z => Nat.lt_asymm h ((pk_lLT hb2 ha).mp z); have h2 : ¬ lN a = lN b := fun z => Nat.ne_of_lt h ((pk_lEQ ha hb2).mp z); simp [lg_cmp, h1, h2]
    rw [e1]
    exact lv_if_gt hexec hb hdg ht (fun z => by first | exact absurd z (by decide) | exact absurd (by decide) z) (fun z => kf (by omega))
  · have e1 : lg_cmp (lN a) (lN b) = 0 := by subst h; simp [lg_cmp]
    rw [e1]
    exact lv_if_gt hexec hb hdg ht (fun z => by first | exact absurd z (by decide) | exact absurd (by decide) z) (fun z => kf (by omega))
  · have e1 : lg_cmp (lN a) (lN b) = 1 := by have h1 : lN b < lN a := (pk_lLT hb2 ha).mpr h; simp [lg_cmp, h1]
    rw [e1]
    exact lv_if_gt hexec hb hdg ht (fun z => kt (by omega)) (fun z => by first | exact absurd z (by decide) | exact absurd (by decide) z)
theorem nz_lle {a b : Nat} {off : Int} {tgt : Nat} (hexec : p.tables.exec = Jvm.exec) (hb : c.code = cc) (hdg : decode cc pc = .ok (.ifCond .le off, 3)) (ht : (pc : Int) + off = (tgt : Int)) (ha : a < 2 ^ 63) (hb2 : b < 2 ^ 63) (kt : a ≤ b → W p l e R s m args below meth c H locs cells slots Q (F0 m tgt ls rest)) (kf : b < a → W p l e R s m args below meth c H locs cells slots Q (F0 m (pc + 3) ls rest)) : W p l e R s m args below meth c H locs cells slots Q (F0 m pc ls (.int (lg_cmp (lN a) (lN b)) :: rest)) := by
  rcases Nat.lt_trichotomy a b with h | h | h
  · have e1 : lg_cmp (lN a) (lN b) = -1 := by have h1 : ¬ lN b < lN a := fun z => Nat.lt_asymm h ((pk_lLT hb2 ha).mp z); have h2 : ¬ lN a = lN b := fun z => Nat.ne_of_lt h ((pk_lEQ ha hb2).mp z); simp [lg_cmp, h1, h2]
    rw [e1]
    exact lv_if_le hexec hb hdg ht (fun z => kt (by omega)) (fun z => by first | exact absurd z (by decide) | exact absurd (by decide) z)
  · have e1 : lg_cmp (lN a) (lN b) = 0 := by subst h; simp [lg_cmp]
    rw [e1]
    exact lv_if_le hexec hb hdg ht (fun z => kt (by omega)) (fun z => by first | exact absurd z (by decide) | exact absurd (by decide) z)
  · have e1 : lg_cmp (lN a) (lN b) = 1 := by have h1 : lN b < lN a := (pk_lLT hb2 ha).mpr h; simp [lg_cmp, h1]
    rw [e1]
    exact lv_if_le hexec hb hdg ht (fun z => by first | exact absurd z (by decide) | exact absurd (by decide) z) (fun z => kf (by omega))
theorem nz_leq {a b : Nat} {off : Int} {tgt : Nat} (hexec : p.tables.exec = Jvm.exec) (hb : c.code = cc) (hdg : decode cc pc = .ok (.ifCond .eq off, 3)) (ht : (pc : Int) + off = (tgt : Int)) (ha : a < 2 ^ 63) (hb2 : b < 2 ^ 63) (kt : a = b → W p l e R s m args below meth c H locs cells slots Q (F0 m tgt ls rest)) (kf : a ≠ b → W p l e R s m args below meth c H locs cells slots Q (F0 m (pc + 3) ls rest)) : W p l e R s m args below meth c H locs cells slots Q (F0 m pc ls (.int (lg_cmp (lN a) (lN b)) :: rest)) := by
  rcases Nat.lt_trichotomy a b with h | h | h
  · have e1 : lg_cmp (lN a) (lN b) = -1 := by have h1 : ¬ lN b < lN a := fun z => Nat.lt_asymm h ((pk_lLT hb2 ha).mp z); have h2 : ¬ lN a = lN b := fun z => Nat.ne_of_lt h ((pk_lEQ ha hb2).mp z); simp [lg_cmp, h1, h2]
    rw [e1]
    exact lv_if_eq hexec hb hdg ht (fun z => by first | exact absurd z (by decide) | exact absurd (by decide) z) (fun z => kf (by omega))
  · have e1 : lg_cmp (lN a) (lN b) = 0 := by subst h; simp [lg_cmp]
    rw [e1]
    exact lv_if_eq hexec hb hdg ht (fun z => kt (by omega)) (fun z => by first | exact absurd z (by decide) | exact absurd (by decide) z)
  · have e1 : lg_cmp (lN a) (lN b) = 1 := by have h1 : lN b < lN a := (pk_lLT hb2 ha).mpr h; simp [lg_cmp, h1]
    rw [e1]
    exact lv_if_eq hexec hb hdg ht (fun z => by first | exact absurd z (by decide) | exact absurd (by decide) z) (fun z => kf (by omega))
theorem nz_lne {a b : Nat} {off : Int} {tgt : Nat} (hexec : p.tables.exec = Jvm.exec) (hb : c.code = cc) (hdg : decode cc pc = .ok (.ifCond .ne off, 3)) (ht : (pc : Int) + off = (tgt : Int)) (ha : a < 2 ^ 63) (hb2 : b < 2 ^ 63) (kt : a ≠ b → W p l e R s m args below meth c H locs cells slots Q (F0 m tgt ls rest)) (kf : a = b → W p l e R s m args below meth c H locs cells slots Q (F0 m (pc + 3) ls rest)) : W p l e R s m args below meth c H locs cells slots Q (F0 m pc ls (.int (lg_cmp (lN a) (lN b)) :: rest)) := by
  rcases Nat.lt_trichotomy a b with h | h | h
  · have e1 : lg_cmp (lN a) (lN b) = -1 := by have h1 : ¬ lN b < lN a := fun z => Nat.lt_asymm h ((pk_lLT hb2 ha).mp z); have h2 : ¬ lN a = lN b := fun z => Nat.ne_of_lt h ((pk_lEQ ha hb2).mp z); simp [lg_cmp, h1, h2]
    rw [e1]
    exact lv_if_ne hexec hb hdg ht (fun z => kt (by omega)) (fun z => by first | exact absurd z (by decide) | exact absurd (by decide) z)
  · have e1 : lg_cmp (lN a) (lN b) = 0 := by subst h; simp [lg_cmp]
    rw [e1]
    exact lv_if_ne hexec hb hdg ht (fun z => by first | exact absurd z (by decide) | exact absurd (by decide) z) (fun z => kf (by omega))
  · have e1 : lg_cmp (lN a) (lN b) = 1 := by have h1 : lN b < lN a := (pk_lLT hb2 ha).mpr h; simp [lg_cmp, h1]
    rw [e1]
    exact lv_if_ne hexec hb hdg ht (fun z => kt (by omega)) (fun z => by first | exact absurd z (by decide) | exact absurd (by decide) z)
end NB
