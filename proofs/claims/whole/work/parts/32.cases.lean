/-! The law, a case of its switch after the other. -/
section NL
variable {p : Program} {l : Launch} {e : Env} {R : Room} {s : State} {m : MethodId} {args : Array Value} {below : List Frame} {meth : Method} {c : Code} {H : Heap} {locs : List Loc} {cells slots : Nat} {Q : State → Prop}
variable {cc : ByteArray} {pc : Nat} {ls : Array Slot} {rest : List Value} {A : Nat → Prop} {H0 : Heap}
theorem nz_sld (hexec : p.tables.exec = Jvm.exec) (hb : c.code = cc) {bs L : Nat} {xs : Nat → Int32} (hX : va_X bs L xs s H0) (hbl : bs < H0.size) (hbA : ¬ A bs) (hS : va_S A H0 H locs) {k : Nat} (hk : k < L) (hL : L < 2 ^ 31) (hdg : decode cc pc = .ok (.iaload, 1))
    (kk : W p l e R s m args below meth c H locs cells slots Q (F0 m (pc + 1) ls (.int (xs k) :: rest))) : W p l e R s m args below meth c H locs cells slots Q (F0 m pc ls (.int (nI k) :: .ref bs :: rest)) := by
  refine va_sld hexec hb hX hbl hbA hS (vp_in_nI hk hL) hdg ?_
  rw [nI_clamp (Nat.lt_trans hk hL)]
  exact kk
end NL
theorem lg_self (x : Int64) : lg_cmp x x = 0 := by simp [lg_cmp]
theorem feed_le {tp : TpT} {v : Int32} (h : tp.2 ≤ 400) : (bif decide (tp.2 ≤ 396) then tpFeed tp v else tp).2 ≤ 400 := by
  by_cases e : tp.2 ≤ 396
  · rw [decide_eq_true e]
    show tp.2 + 1 + 1 + 1 + 1 ≤ 400
    omega
  · rw [decide_eq_false e]
    exact h
theorem cut_le {tp : TpT} {x : Int32} (h : tp.2 ≤ 400) : cutN tp.2 x ≤ 400 := by
  unfold cutN
  split
  · omega
  · exact h
theorem and_r {x y : Bool} (h : (x && y) = true) : y = true := by
  cases y with
  | true => rfl
  | false => rw [Bool.and_false] at h; cases h
theorem pl_wt {lx : LxT} {ml : MlT} {z : Bool} {r : Nat} (hR : Rel lx ml) (h : z = true → r < lx.2.2.2) : (bif z then lN (lx.2.2.1 r) else (-1)) = (bif z then lN (ml.2.2.1 r) else (-1)) := by
  cases hz : z with
  | false => rfl
  | true => show lN (lx.2.2.1 r) = lN (ml.2.2.1 r); rw [(hR.2.1 r (h hz)).2.2]
theorem pl_rk {lx : LxT} {ml : MlT} {z : Bool} {r : Nat} (hR : Rel lx ml) (h : z = true → r < lx.2.2.2) : (bif z then nI (cntF (fun j => decide (lx.2.2.1 r < lx.2.2.1 j ∨ (lx.2.2.1 j = lx.2.2.1 r ∧ j < r))) lx.2.2.2) else (-1)) = (bif z then nI (cntF (fun j => decide (ml.2.2.1 r < ml.2.2.1 j ∨ (ml.2.2.1 j = ml.2.2.1 r ∧ j < r))) ml.2.2.2.1) else (-1)) := by
  cases hz : z with
  | false => rfl
  | true => show nI _ = nI _; rw [rel_rank hR (h hz)]
set_option maxHeartbeats 8000000 in
set_option maxRecDepth 100000 in
theorem law_feed {p : Program} {l : Launch} {e : Env} {s : State} {m : MethodId} {below : List Frame} {meth : Method} {c : Code} {D : va_G} {a b : Nat → Nat} {cs : Nat → ClassId} {bs L : Nat} {xs : Nat → Int32} (C0 : lw_At p s m meth c bs L xs) (hL : L ≤ 1536) (hK : va_K D vwCl (tyX cs) s) (ha : wInj a) (hb2 : wInjM b) (haL : ∀ k, k < 17 → s.heap.size ≤ a k) (hbL : ∀ k, k < 12 → s.heap.size ≤ b k) (hab : ∀ i j, i < 17 → j < 12 → a i ≠ b j) {i : Nat} (hi : i + 3 ≤ L) (tp : TpT) (wd : (Nat → Nat) × Nat) (lx : LxT) (ro : Nat → Nat) (rs : RsT) (ml : MlT) (mr : MrT) (mk : (Nat → Bool) × (Nat → Nat) × (Nat → Nat)) (hV : LInv tp wd lx rs ml mr) {H : Heap} {locs : List Loc} (hX : va_P D vwCl (wX a cs tp wd lx ro rs) H) (hM : va_P D vwCl (wM b cs tp ml mr mk) H) (hS : va_S (fun q : Nat => s.heap.size ≤ q) s.heap H locs) {ls : Array Slot} (hl : lv_has ls 4 [(0, .ref bs), (1, .ref (a 0)), (2, .ref (b 0)), (3, .int (nI i))]) (hk : ∀ (tp : TpT) (wd : (Nat → Nat) × Nat) (lx : LxT) (ro : Nat → Nat) (rs : RsT) (ml : MlT) (mr : MrT) (mk : (Nat → Bool) × (Nat → Nat) × (Nat → Nat)), LInv tp wd lx rs ml mr → ∀ (H : Heap) (locs : List Loc), va_P D vwCl (wX a cs tp wd lx ro rs) H → va_P D vwCl (wM b cs tp ml mr mk) H → va_S (fun q : Nat => s.heap.size ≤ q) s.heap H locs → W p l e room_1 s m #[Value.ref bs] below meth c H locs 29 27686 (lw_Z below #[Value.ref bs] s) (F0 m 501 ls [])) : W p l e room_1 s m #[Value.ref bs] below meth c H locs 29 27686 (lw_Z below #[Value.ref bs] s) (F0 m 116 ls []) := by
  obtain ⟨hx, hb, hr, hml, hown, hts0, hXs, hbl, hlocks, hgv⟩ := C0
  have hown : s.vm.findClass RL = some m.cls := hown
  have hts : ∀ w ∈ wsL_law, w.before #[Value.ref bs] s = true := fun w h => hts0 w (wsL_law_in w h)
  have hbA : ¬ (fun q : Nat => s.heap.size ≤ q) bs := Nat.not_le.mpr hbl
  have hAX : ∀ q, inX a q → s.heap.size ≤ q := fun q ⟨k, hk, e⟩ => e ▸ haL k hk
  have hAM : ∀ q, inM b q → s.heap.size ≤ q := fun q ⟨k, hk, e⟩ => e ▸ hbL k hk
  obtain ⟨hT, hW, hI, ⟨hR, hnr⟩, hMl, hMr, hRl, hRR⟩ := id hV
  refine lv_aload_n hx hb dL_law_116 rfl (lv_at hl 1 rfl) ?_
  refine lv_aload_n hx hb dL_law_117 rfl (lv_at hl 0 rfl) ?_
  refine lv_iload_n hx hb dL_law_118 rfl (lv_at hl 3 rfl) ?_
  refine lv_iconst (v := nI 1) hx hb dL_law_119 (by decide +kernel) ?_
  refine nz_iadd (a := i) (b := 1) hx hb dL_law_120 ?_
  refine nz_sld (k := i + 1) hx hb hXs hbl hbA hS (by omega) (by omega) dL_law_121 ?_
  refine nz_callW (va_runV (As := [.int (xs (i + 1))]) (rest := []) ⟨hx, hb, hml, hown, hts⟩ (mX5_feed l D a cs tp wd lx ro rs (xs (i + 1)) (decide (tp.2 ≤ 396)) ha hT decide_eq_true_iff) (cwV 1 hts gL_law_X5_feed rfl rfl rfl (by decide +kernel) ⟨Nat.le_of_ble_eq_true rfl, Nat.le_of_ble_eq_true rfl⟩) (nz_preV (ci := 5) (q0 := 0) hK hX rfl rfl) rfl rfl hl.1 rfl (lv_room (Nat.le_of_ble_eq_true rfl)) dL_law_122 ⟨Nat.le_of_ble_eq_true rfl, Nat.le_of_ble_eq_true rfl⟩) hS hAX (fun H locs hX _ hk1 hS => ?_)
  have hM := keepM hM hk1 hab
  refine lv_aload_n hx hb dL_law_125 rfl (lv_at hl 2 rfl) ?_
  refine lv_aload_n hx hb dL_law_126 rfl (lv_at hl 0 rfl) ?_
  refine lv_iload_n hx hb dL_law_127 rfl (lv_at hl 3 rfl) ?_
  refine lv_iconst (v := nI 1) hx hb dL_law_128 (by decide +kernel) ?_
  refine nz_iadd (a := i) (b := 1) hx hb dL_law_129 ?_
  refine nz_sld (k := i + 1) hx hb hXs hbl hbA hS (by omega) (by omega) dL_law_130 ?_
  refine nz_callW (va_runV (As := [.int (xs (i + 1))]) (rest := [_]) ⟨hx, hb, hml, hown, hts⟩ (mX6_feed l D b cs tp ml mr mk (xs (i + 1)) (decide (tp.2 ≤ 396)) hb2 hT decide_eq_true_iff) (cwV 1 hts gL_law_X6_feed rfl rfl rfl (by decide +kernel) ⟨Nat.le_of_ble_eq_true rfl, Nat.le_of_ble_eq_true rfl⟩) (nz_preV (ci := 6) (q0 := 0) hK hM rfl rfl) rfl rfl hl.1 rfl (lv_room (Nat.le_of_ble_eq_true rfl)) dL_law_131 ⟨Nat.le_of_ble_eq_true rfl, Nat.le_of_ble_eq_true rfl⟩) hS hAM (fun H locs hM _ hk1 hS => ?_)
  have hX := keepX hX hk1 hab
  exact lv_icmp_eq (tgt := 501) hx hb dL_law_134 (by decide) (fun _ => hk _ _ _ _ _ _ _ _ ⟨feed_le hT, hW, hI, ⟨hR, hnr⟩, hMl, hMr, hRl, hRR⟩ H locs hX hM hS) (fun z => absurd (rfl) z)
set_option maxHeartbeats 8000000 in
set_option maxRecDepth 100000 in
theorem law_cut {p : Program} {l : Launch} {e : Env} {s : State} {m : MethodId} {below : List Frame} {meth : Method} {c : Code} {D : va_G} {a b : Nat → Nat} {cs : Nat → ClassId} {bs L : Nat} {xs : Nat → Int32} (C0 : lw_At p s m meth c bs L xs) (hL : L ≤ 1536) (hK : va_K D vwCl (tyX cs) s) (ha : wInj a) (hb2 : wInjM b) (haL : ∀ k, k < 17 → s.heap.size ≤ a k) (hbL : ∀ k, k < 12 → s.heap.size ≤ b k) (hab : ∀ i j, i < 17 → j < 12 → a i ≠ b j) {i : Nat} (hi : i + 3 ≤ L) (tp : TpT) (wd : (Nat → Nat) × Nat) (lx : LxT) (ro : Nat → Nat) (rs : RsT) (ml : MlT) (mr : MrT) (mk : (Nat → Bool) × (Nat → Nat) × (Nat → Nat)) (hV : LInv tp wd lx rs ml mr) {H : Heap} {locs : List Loc} (hX : va_P D vwCl (wX a cs tp wd lx ro rs) H) (hM : va_P D vwCl (wM b cs tp ml mr mk) H) (hS : va_S (fun q : Nat => s.heap.size ≤ q) s.heap H locs) {ls : Array Slot} (hl : lv_has ls 4 [(0, .ref bs), (1, .ref (a 0)), (2, .ref (b 0)), (3, .int (nI i))]) (hk : ∀ (tp : TpT) (wd : (Nat → Nat) × Nat) (lx : LxT) (ro : Nat → Nat) (rs : RsT) (ml : MlT) (mr : MrT) (mk : (Nat → Bool) × (Nat → Nat) × (Nat → Nat)), LInv tp wd lx rs ml mr → ∀ (H : Heap) (locs : List Loc), va_P D vwCl (wX a cs tp wd lx ro rs) H → va_P D vwCl (wM b cs tp ml mr mk) H → va_S (fun q : Nat => s.heap.size ≤ q) s.heap H locs → W p l e room_1 s m #[Value.ref bs] below meth c H locs 29 27686 (lw_Z below #[Value.ref bs] s) (F0 m 501 ls [])) : W p l e room_1 s m #[Value.ref bs] below meth c H locs 29 27686 (lw_Z below #[Value.ref bs] s) (F0 m 139 ls []) := by
  obtain ⟨hx, hb, hr, hml, hown, hts0, hXs, hbl, hlocks, hgv⟩ := C0
  have hown : s.vm.findClass RL = some m.cls := hown
  have hts : ∀ w ∈ wsL_law, w.before #[Value.ref bs] s = true := fun w h => hts0 w (wsL_law_in w h)
  have hbA : ¬ (fun q : Nat => s.heap.size ≤ q) bs := Nat.not_le.mpr hbl
  have hAX : ∀ q, inX a q → s.heap.size ≤ q := fun q ⟨k, hk, e⟩ => e ▸ haL k hk
  have hAM : ∀ q, inM b q → s.heap.size ≤ q := fun q ⟨k, hk, e⟩ => e ▸ hbL k hk
  obtain ⟨hT, hW, hI, ⟨hR, hnr⟩, hMl, hMr, hRl, hRR⟩ := id hV
  refine lv_aload_n hx hb dL_law_139 rfl (lv_at hl 1 rfl) ?_
  refine lv_aload_n hx hb dL_law_140 rfl (lv_at hl 0 rfl) ?_
  refine lv_iload_n hx hb dL_law_141 rfl (lv_at hl 3 rfl) ?_
  refine lv_iconst (v := nI 1) hx hb dL_law_142 (by decide +kernel) ?_
  refine nz_iadd (a := i) (b := 1) hx hb dL_law_143 ?_
  refine nz_sld (k := i + 1) hx hb hXs hbl hbA hS (by omega) (by omega) dL_law_144 ?_
  refine nz_callW (va_runV (As := [.int (xs (i + 1))]) (rest := []) ⟨hx, hb, hml, hown, hts⟩ (mX5_cut l D a cs tp wd lx ro rs (xs (i + 1)) ha hT) (cwV 1 hts gL_law_X5_cut rfl rfl rfl (by decide +kernel) ⟨Nat.le_of_ble_eq_true rfl, Nat.le_of_ble_eq_true rfl⟩) (nz_preV (ci := 5) (q0 := 0) hK hX rfl rfl) rfl rfl hl.1 rfl (lv_room (Nat.le_of_ble_eq_true rfl)) dL_law_145 ⟨Nat.le_of_ble_eq_true rfl, Nat.le_of_ble_eq_true rfl⟩) hS hAX (fun H locs hX _ hk1 hS => ?_)
  have hM := keepM hM hk1 hab
  refine lv_aload_n hx hb dL_law_148 rfl (lv_at hl 2 rfl) ?_
  refine lv_aload_n hx hb dL_law_149 rfl (lv_at hl 0 rfl) ?_
  refine lv_iload_n hx hb dL_law_150 rfl (lv_at hl 3 rfl) ?_
  refine lv_iconst (v := nI 1) hx hb dL_law_151 (by decide +kernel) ?_
  refine nz_iadd (a := i) (b := 1) hx hb dL_law_152 ?_
  refine nz_sld (k := i + 1) hx hb hXs hbl hbA hS (by omega) (by omega) dL_law_153 ?_
  refine nz_callW (va_runV (As := [.int (xs (i + 1))]) (rest := [_]) ⟨hx, hb, hml, hown, hts⟩ (mX6_cut l D b cs tp ml mr mk (xs (i + 1)) hb2 hT) (cwV 1 hts gL_law_X6_cut rfl rfl rfl (by decide +kernel) ⟨Nat.le_of_ble_eq_true rfl, Nat.le_of_ble_eq_true rfl⟩) (nz_preV (ci := 6) (q0 := 0) hK hM rfl rfl) rfl rfl hl.1 rfl (lv_room (Nat.le_of_ble_eq_true rfl)) dL_law_154 ⟨Nat.le_of_ble_eq_true rfl, Nat.le_of_ble_eq_true rfl⟩) hS hAM (fun H locs hM _ hk1 hS => ?_)
  have hX := keepX hX hk1 hab
  exact lv_icmp_eq (tgt := 501) hx hb dL_law_157 (by decide) (fun _ => hk _ _ _ _ _ _ _ _ ⟨cut_le hT, hW, hI, ⟨hR, hnr⟩, hMl, hMr, hRl, hRR⟩ H locs hX hM hS) (fun z => absurd (rfl) z)
set_option maxHeartbeats 8000000 in
set_option maxRecDepth 100000 in
theorem law_learn {p : Program} {l : Launch} {e : Env} {s : State} {m : MethodId} {below : List Frame} {meth : Method} {c : Code} {D : va_G} {a b : Nat → Nat} {cs : Nat → ClassId} {bs L : Nat} {xs : Nat → Int32} (C0 : lw_At p s m meth c bs L xs) (hL : L ≤ 1536) (hK : va_K D vwCl (tyX cs) s) (ha : wInj a) (hb2 : wInjM b) (haL : ∀ k, k < 17 → s.heap.size ≤ a k) (hbL : ∀ k, k < 12 → s.heap.size ≤ b k) (hab : ∀ i j, i < 17 → j < 12 → a i ≠ b j) {i : Nat} (hi : i + 3 ≤ L) (tp : TpT) (wd : (Nat → Nat) × Nat) (lx : LxT) (ro : Nat → Nat) (rs : RsT) (ml : MlT) (mr : MrT) (mk : (Nat → Bool) × (Nat → Nat) × (Nat → Nat)) (hV : LInv tp wd lx rs ml mr) {H : Heap} {locs : List Loc} (hX : va_P D vwCl (wX a cs tp wd lx ro rs) H) (hM : va_P D vwCl (wM b cs tp ml mr mk) H) (hS : va_S (fun q : Nat => s.heap.size ≤ q) s.heap H locs) {ls : Array Slot} (hl : lv_has ls 4 [(0, .ref bs), (1, .ref (a 0)), (2, .ref (b 0)), (3, .int (nI i))]) (hk : ∀ (tp : TpT) (wd : (Nat → Nat) × Nat) (lx : LxT) (ro : Nat → Nat) (rs : RsT) (ml : MlT) (mr : MrT) (mk : (Nat → Bool) × (Nat → Nat) × (Nat → Nat)), LInv tp wd lx rs ml mr → ∀ (H : Heap) (locs : List Loc), va_P D vwCl (wX a cs tp wd lx ro rs) H → va_P D vwCl (wM b cs tp ml mr mk) H → va_S (fun q : Nat => s.heap.size ≤ q) s.heap H locs → W p l e room_1 s m #[Value.ref bs] below meth c H locs 29 27686 (lw_Z below #[Value.ref bs] s) (F0 m 501 ls [])) : W p l e room_1 s m #[Value.ref bs] below meth c H locs 29 27686 (lw_Z below #[Value.ref bs] s) (F0 m 162 ls []) := by
  obtain ⟨hx, hb, hr, hml, hown, hts0, hXs, hbl, hlocks, hgv⟩ := C0
  have hown : s.vm.findClass RL = some m.cls := hown
  have hts : ∀ w ∈ wsL_law, w.before #[Value.ref bs] s = true := fun w h => hts0 w (wsL_law_in w h)
  have hbA : ¬ (fun q : Nat => s.heap.size ≤ q) bs := Nat.not_le.mpr hbl
  have hAX : ∀ q, inX a q → s.heap.size ≤ q := fun q ⟨k, hk, e⟩ => e ▸ haL k hk
  have hAM : ∀ q, inM b q → s.heap.size ≤ q := fun q ⟨k, hk, e⟩ => e ▸ hbL k hk
  obtain ⟨hT, hW, hI, ⟨hR, hnr⟩, hMl, hMr, hRl, hRR⟩ := id hV
  refine lv_aload_n hx hb dL_law_162 rfl (lv_at hl 1 rfl) ?_
  refine lv_aload_n hx hb dL_law_163 rfl (lv_at hl 0 rfl) ?_
  refine lv_iload_n hx hb dL_law_164 rfl (lv_at hl 3 rfl) ?_
  refine lv_iconst (v := nI 1) hx hb dL_law_165 (by decide +kernel) ?_
  refine nz_iadd (a := i) (b := 1) hx hb dL_law_166 ?_
  refine nz_sld (k := i + 1) hx hb hXs hbl hbA hS (by omega) (by omega) dL_law_167 ?_
  refine nz_callW (va_runV (As := [.int (xs (i + 1))]) (rest := []) ⟨hx, hb, hml, hown, hts⟩ (mX5_learn l D a cs tp wd lx ro rs (xs (i + 1)) ha hI hT hW) (cwV 1 hts gL_law_X5_learn rfl rfl rfl (by decide +kernel) ⟨Nat.le_of_ble_eq_true rfl, Nat.le_of_ble_eq_true rfl⟩) (nz_preV (ci := 5) (q0 := 0) hK hX rfl rfl) rfl rfl hl.1 rfl (lv_room (Nat.le_of_ble_eq_true rfl)) dL_law_168 ⟨Nat.le_of_ble_eq_true rfl, Nat.le_of_ble_eq_true rfl⟩) hS hAX (fun H locs hX _ hk1 hS => ?_)
  obtain ⟨wd2, hwd2, hX⟩ := hX
  have hM := keepM hM hk1 hab
  refine lv_aload_n hx hb dL_law_171 rfl (lv_at hl 2 rfl) ?_
  refine lv_aload_n hx hb dL_law_172 rfl (lv_at hl 0 rfl) ?_
  refine lv_iload_n hx hb dL_law_173 rfl (lv_at hl 3 rfl) ?_
  refine lv_iconst (v := nI 1) hx hb dL_law_174 (by decide +kernel) ?_
  refine nz_iadd (a := i) (b := 1) hx hb dL_law_175 ?_
  refine nz_sld (k := i + 1) hx hb hXs hbl hbA hS (by omega) (by omega) dL_law_176 ?_
  refine nz_callW (va_runV (As := [.int (xs (i + 1))]) (rest := [_]) ⟨hx, hb, hml, hown, hts⟩ (mX6_learn l D b cs tp ml mr mk lx (xs (i + 1)) hb2 hMl hT hI hRl) (cwV 1 hts gL_law_X6_learn rfl rfl rfl (by decide +kernel) ⟨Nat.le_of_ble_eq_true rfl, Nat.le_of_ble_eq_true rfl⟩) (nz_preV (ci := 6) (q0 := 0) hK hM rfl rfl) rfl rfl hl.1 rfl (lv_room (Nat.le_of_ble_eq_true rfl)) dL_law_177 ⟨Nat.le_of_ble_eq_true rfl, Nat.le_of_ble_eq_true rfl⟩) hS hAM (fun H locs hM _ hk1 hS => ?_)
  obtain ⟨ml9, hml9, hM⟩ := hM
  have hX := keepX hX hk1 hab
  exact lv_icmp_eq (tgt := 501) hx hb dL_law_180 (by decide) (fun _ => hk _ _ _ _ _ _ _ _ ⟨lrnT_le hT, hwd2, lrnL_inv hI, ⟨hR, hnr⟩, hml9.1, hMr, hml9.2, hRR⟩ H locs hX hM hS) (fun z => absurd (rfl) z)
set_option maxHeartbeats 8000000 in
set_option maxRecDepth 100000 in
theorem law_set {p : Program} {l : Launch} {e : Env} {s : State} {m : MethodId} {below : List Frame} {meth : Method} {c : Code} {D : va_G} {a b : Nat → Nat} {cs : Nat → ClassId} {bs L : Nat} {xs : Nat → Int32} (C0 : lw_At p s m meth c bs L xs) (hL : L ≤ 1536) (hK : va_K D vwCl (tyX cs) s) (ha : wInj a) (hb2 : wInjM b) (haL : ∀ k, k < 17 → s.heap.size ≤ a k) (hbL : ∀ k, k < 12 → s.heap.size ≤ b k) (hab : ∀ i j, i < 17 → j < 12 → a i ≠ b j) {i : Nat} (hi : i + 3 ≤ L) (tp : TpT) (wd : (Nat → Nat) × Nat) (lx : LxT) (ro : Nat → Nat) (rs : RsT) (ml : MlT) (mr : MrT) (mk : (Nat → Bool) × (Nat → Nat) × (Nat → Nat)) (hV : LInv tp wd lx rs ml mr) {H : Heap} {locs : List Loc} (hX : va_P D vwCl (wX a cs tp wd lx ro rs) H) (hM : va_P D vwCl (wM b cs tp ml mr mk) H) (hS : va_S (fun q : Nat => s.heap.size ≤ q) s.heap H locs) {ls : Array Slot} (hl : lv_has ls 4 [(0, .ref bs), (1, .ref (a 0)), (2, .ref (b 0)), (3, .int (nI i))]) (hk : ∀ (tp : TpT) (wd : (Nat → Nat) × Nat) (lx : LxT) (ro : Nat → Nat) (rs : RsT) (ml : MlT) (mr : MrT) (mk : (Nat → Bool) × (Nat → Nat) × (Nat → Nat)), LInv tp wd lx rs ml mr → ∀ (H : Heap) (locs : List Loc), va_P D vwCl (wX a cs tp wd lx ro rs) H → va_P D vwCl (wM b cs tp ml mr mk) H → va_S (fun q : Nat => s.heap.size ≤ q) s.heap H locs → W p l e room_1 s m #[Value.ref bs] below meth c H locs 29 27686 (lw_Z below #[Value.ref bs] s) (F0 m 501 ls [])) : W p l e room_1 s m #[Value.ref bs] below meth c H locs 29 27686 (lw_Z below #[Value.ref bs] s) (F0 m 185 ls []) := by
  obtain ⟨hx, hb, hr, hml, hown, hts0, hXs, hbl, hlocks, hgv⟩ := C0
  have hown : s.vm.findClass RL = some m.cls := hown
  have hts : ∀ w ∈ wsL_law, w.before #[Value.ref bs] s = true := fun w h => hts0 w (wsL_law_in w h)
  have hbA : ¬ (fun q : Nat => s.heap.size ≤ q) bs := Nat.not_le.mpr hbl
  have hAX : ∀ q, inX a q → s.heap.size ≤ q := fun q ⟨k, hk, e⟩ => e ▸ haL k hk
  have hAM : ∀ q, inM b q → s.heap.size ≤ q := fun q ⟨k, hk, e⟩ => e ▸ hbL k hk
  obtain ⟨hT, hW, hI, ⟨hR, hnr⟩, hMl, hMr, hRl, hRR⟩ := id hV
  have hp9 := plX_is hI (qF tp) tp.2
  have hfn := rel_fn hI hRl hp9
  have hr6 : (plX lx (qF tp) tp.2) ≤ 600 := Nat.le_trans hp9.1 hI.1.1
  refine lv_aload_n hx hb dL_law_185 rfl (lv_at hl 1 rfl) ?_
  refine lv_aload_n hx hb dL_law_186 rfl (lv_at hl 0 rfl) ?_
  refine lv_iload_n hx hb dL_law_187 rfl (lv_at hl 3 rfl) ?_
  refine lv_iconst (v := nI 1) hx hb dL_law_188 (by decide +kernel) ?_
  refine nz_iadd (a := i) (b := 1) hx hb dL_law_189 ?_
  refine nz_sld (k := i + 1) hx hb hXs hbl hbA hS (by omega) (by omega) dL_law_190 ?_
  refine lv_i2l hx hb dL_law_191 rfl ?_
  refine lv_bipush (v := nI 32) hx hb dL_law_192 (by decide +kernel) ?_
  refine lv_lshl hx hb dL_law_194 rfl ?_
  refine lv_aload_n hx hb dL_law_195 rfl (lv_at hl 0 rfl) ?_
  refine lv_iload_n hx hb dL_law_196 rfl (lv_at hl 3 rfl) ?_
  refine lv_iconst (v := nI 2) hx hb dL_law_197 (by decide +kernel) ?_
  refine nz_iadd (a := i) (b := 2) hx hb dL_law_198 ?_
  refine nz_sld (k := i + 2) hx hb hXs hbl hbA hS (by omega) (by omega) dL_law_199 ?_
  refine lv_i2l hx hb dL_law_200 rfl ?_
  refine lv_ldc2 (v := 4294967295) hx hb hown (hts (.constantLong RL 26 (4294967295)) (by decide +kernel)) dL_law_201 ?_
  refine lv_land hx hb dL_law_204 ?_
  refine lv_lor hx hb dL_law_205 ?_
  refine lv_topl (fun X eX => ?_)
  refine nz_callW (va_runV (As := [.long X]) (rest := []) ⟨hx, hb, hml, hown, hts⟩ (mX5_set l D a cs tp wd lx ro rs X (dB (goodT tp ∧ 0 < tp.2)) (plX lx (qF tp) tp.2) (dB (stdX lx (qF tp) tp.2 (plX lx (qF tp) tp.2))) (dB (roomX lx tp.2)) (dB (setOk X)) ha hI hT hW dB_iff hp9 dB_iff dB_iff dB_iff) (cwV 1 hts gL_law_X5_set rfl rfl rfl (by decide +kernel) ⟨Nat.le_of_ble_eq_true rfl, Nat.le_of_ble_eq_true rfl⟩) (nz_preV (ci := 5) (q0 := 0) hK hX rfl rfl) rfl rfl hl.1 rfl (lv_room (Nat.le_of_ble_eq_true rfl)) dL_law_206 ⟨Nat.le_of_ble_eq_true rfl, Nat.le_of_ble_eq_true rfl⟩) hS hAX (fun H locs hX _ hk1 hS => ?_)
  obtain ⟨wd2, hwd2, hX⟩ := hX
  have hM := keepM hM hk1 hab
  refine lv_aload_n hx hb dL_law_209 rfl (lv_at hl 2 rfl) ?_
  refine lv_aload_n hx hb dL_law_210 rfl (lv_at hl 0 rfl) ?_
  refine lv_iload_n hx hb dL_law_211 rfl (lv_at hl 3 rfl) ?_
  refine lv_iconst (v := nI 1) hx hb dL_law_212 (by decide +kernel) ?_
  refine nz_iadd (a := i) (b := 1) hx hb dL_law_213 ?_
  refine nz_sld (k := i + 1) hx hb hXs hbl hbA hS (by omega) (by omega) dL_law_214 ?_
  refine lv_i2l hx hb dL_law_215 rfl ?_
  refine lv_bipush (v := nI 32) hx hb dL_law_216 (by decide +kernel) ?_
  refine lv_lshl hx hb dL_law_218 rfl ?_
  refine lv_aload_n hx hb dL_law_219 rfl (lv_at hl 0 rfl) ?_
  refine lv_iload_n hx hb dL_law_220 rfl (lv_at hl 3 rfl) ?_
  refine lv_iconst (v := nI 2) hx hb dL_law_221 (by decide +kernel) ?_
  refine nz_iadd (a := i) (b := 2) hx hb dL_law_222 ?_
  refine nz_sld (k := i + 2) hx hb hXs hbl hbA hS (by omega) (by omega) dL_law_223 ?_
  refine lv_i2l hx hb dL_law_224 rfl ?_
  refine lv_ldc2 (v := 4294967295) hx hb hown (hts (.constantLong RL 26 (4294967295)) (by decide +kernel)) dL_law_225 ?_
  refine lv_land hx hb dL_law_228 ?_
  refine lv_lor hx hb dL_law_229 ?_
  rw [← eX]
  refine nz_callW (va_runV (As := [.long X]) (rest := [_]) ⟨hx, hb, hml, hown, hts⟩ (mX6_set l D b cs tp ml mr mk X (dB (goodT tp ∧ 0 < tp.2)) (plX lx (qF tp) tp.2) (dB (stdX lx (qF tp) tp.2 (plX lx (qF tp) tp.2))) (dB (roomX lx tp.2)) (dB (setOk X)) hb2 hMl hT dB_iff hfn (dB_iff.trans (rel_room hRl).symm) dB_iff hr6) (cwV 1 hts gL_law_X6_set rfl rfl rfl (by decide +kernel) ⟨Nat.le_of_ble_eq_true rfl, Nat.le_of_ble_eq_true rfl⟩) (nz_preV (ci := 6) (q0 := 0) hK hM rfl rfl) rfl rfl hl.1 rfl (lv_room (Nat.le_of_ble_eq_true rfl)) dL_law_230 ⟨Nat.le_of_ble_eq_true rfl, Nat.le_of_ble_eq_true rfl⟩) hS hAM (fun H locs hM _ hk1 hS => ?_)
  obtain ⟨ml9, hml9, hM⟩ := hM
  have hs9 := set_inv (x := X) hI hRl (dB_iff (P := goodT tp ∧ 0 < tp.2)) hp9 (dB_iff (P := stdX lx (qF tp) tp.2 (plX lx (qF tp) tp.2))) (dB_iff (P := roomX lx tp.2)) (dB_iff (P := setOk X)) hml9.2.1 hml9.2.2
  have hX := keepX hX hk1 hab
  exact lv_icmp_eq (tgt := 501) hx hb dL_law_233 (by decide) (fun _ => hk _ _ _ _ _ _ _ _ ⟨Nat.zero_le _, hwd2, hs9.1, ⟨hR, hnr⟩, hml9.1, hMr, hs9.2, hRR⟩ H locs hX hM hS) (fun z => absurd (rfl) z)
set_option maxHeartbeats 8000000 in
set_option maxRecDepth 100000 in
theorem law_drop {p : Program} {l : Launch} {e : Env} {s : State} {m : MethodId} {below : List Frame} {meth : Method} {c : Code} {D : va_G} {a b : Nat → Nat} {cs : Nat → ClassId} {bs L : Nat} {xs : Nat → Int32} (C0 : lw_At p s m meth c bs L xs) (hL : L ≤ 1536) (hK : va_K D vwCl (tyX cs) s) (ha : wInj a) (hb2 : wInjM b) (haL : ∀ k, k < 17 → s.heap.size ≤ a k) (hbL : ∀ k, k < 12 → s.heap.size ≤ b k) (hab : ∀ i j, i < 17 → j < 12 → a i ≠ b j) {i : Nat} (hi : i + 3 ≤ L) (tp : TpT) (wd : (Nat → Nat) × Nat) (lx : LxT) (ro : Nat → Nat) (rs : RsT) (ml : MlT) (mr : MrT) (mk : (Nat → Bool) × (Nat → Nat) × (Nat → Nat)) (hV : LInv tp wd lx rs ml mr) {H : Heap} {locs : List Loc} (hX : va_P D vwCl (wX a cs tp wd lx ro rs) H) (hM : va_P D vwCl (wM b cs tp ml mr mk) H) (hS : va_S (fun q : Nat => s.heap.size ≤ q) s.heap H locs) {ls : Array Slot} (hl : lv_has ls 4 [(0, .ref bs), (1, .ref (a 0)), (2, .ref (b 0)), (3, .int (nI i))]) (hk : ∀ (tp : TpT) (wd : (Nat → Nat) × Nat) (lx : LxT) (ro : Nat → Nat) (rs : RsT) (ml : MlT) (mr : MrT) (mk : (Nat → Bool) × (Nat → Nat) × (Nat → Nat)), LInv tp wd lx rs ml mr → ∀ (H : Heap) (locs : List Loc), va_P D vwCl (wX a cs tp wd lx ro rs) H → va_P D vwCl (wM b cs tp ml mr mk) H → va_S (fun q : Nat => s.heap.size ≤ q) s.heap H locs → W p l e room_1 s m #[Value.ref bs] below meth c H locs 29 27686 (lw_Z below #[Value.ref bs] s) (F0 m 501 ls [])) : W p l e room_1 s m #[Value.ref bs] below meth c H locs 29 27686 (lw_Z below #[Value.ref bs] s) (F0 m 238 ls []) := by
  obtain ⟨hx, hb, hr, hml, hown, hts0, hXs, hbl, hlocks, hgv⟩ := C0
  have hown : s.vm.findClass RL = some m.cls := hown
  have hts : ∀ w ∈ wsL_law, w.before #[Value.ref bs] s = true := fun w h => hts0 w (wsL_law_in w h)
  have hbA : ¬ (fun q : Nat => s.heap.size ≤ q) bs := Nat.not_le.mpr hbl
  have hAX : ∀ q, inX a q → s.heap.size ≤ q := fun q ⟨k, hk, e⟩ => e ▸ haL k hk
  have hAM : ∀ q, inM b q → s.heap.size ≤ q := fun q ⟨k, hk, e⟩ => e ▸ hbL k hk
  obtain ⟨hT, hW, hI, ⟨hR, hnr⟩, hMl, hMr, hRl, hRR⟩ := id hV
  have hp9 := plX_is hI (qF tp) tp.2
  have hfn := rel_fn hI hRl hp9
  have hr6 : (plX lx (qF tp) tp.2) ≤ 600 := Nat.le_trans hp9.1 hI.1.1
  refine lv_aload_n hx hb dL_law_238 rfl (lv_at hl 1 rfl) ?_
  refine nz_callW (va_runV (As := []) (rest := []) ⟨hx, hb, hml, hown, hts⟩ (mX5_drop l D a cs tp wd lx ro rs (dB (goodT tp ∧ 0 < tp.2)) (plX lx (qF tp) tp.2) (dB (stdX lx (qF tp) tp.2 (plX lx (qF tp) tp.2))) ha hI hT hW dB_iff hp9 dB_iff) (cwV 0 hts gL_law_X5_drop rfl rfl rfl (by decide +kernel) ⟨Nat.le_of_ble_eq_true rfl, Nat.le_of_ble_eq_true rfl⟩) (nz_preV (ci := 5) (q0 := 0) hK hX rfl rfl) rfl rfl hl.1 rfl (lv_room (Nat.le_of_ble_eq_true rfl)) dL_law_239 ⟨Nat.le_of_ble_eq_true rfl, Nat.le_of_ble_eq_true rfl⟩) hS hAX (fun H locs hX _ hk1 hS => ?_)
  obtain ⟨wd2, hwd2, hX⟩ := hX
  have hM := keepM hM hk1 hab
  refine lv_aload_n hx hb dL_law_242 rfl (lv_at hl 2 rfl) ?_
  refine nz_callW (va_runV (As := []) (rest := [_]) ⟨hx, hb, hml, hown, hts⟩ (mX6_drop l D b cs tp ml mr mk (dB (goodT tp ∧ 0 < tp.2)) (plX lx (qF tp) tp.2) (dB (stdX lx (qF tp) tp.2 (plX lx (qF tp) tp.2))) hb2 hMl hT dB_iff hfn hr6 (fun h => rel_size hI hRl (dB_iff.mp (and_r h)))) (cwV 0 hts gL_law_X6_drop rfl rfl rfl (by decide +kernel) ⟨Nat.le_of_ble_eq_true rfl, Nat.le_of_ble_eq_true rfl⟩) (nz_preV (ci := 6) (q0 := 0) hK hM rfl rfl) rfl rfl hl.1 rfl (lv_room (Nat.le_of_ble_eq_true rfl)) dL_law_243 ⟨Nat.le_of_ble_eq_true rfl, Nat.le_of_ble_eq_true rfl⟩) hS hAM (fun H locs hM _ hk1 hS => ?_)
  obtain ⟨ml9, hml9, hM⟩ := hM
  have hs9 := drop_inv hI hRl (dB_iff (P := stdX lx (qF tp) tp.2 (plX lx (qF tp) tp.2))) (fun h => and_r h) hml9.2.1 hml9.2.2
  have hX := keepX hX hk1 hab
  refine W.lcmp hx hb dL_law_246 ?_
  exact lv_if_eq (tgt := 501) hx hb dL_law_247 (by decide) (fun _ => hk _ _ _ _ _ _ _ _ ⟨Nat.zero_le _, hwd2, hs9.1, ⟨hR, hnr⟩, hml9.1, hMr, hs9.2, hRR⟩ H locs hX hM hS) (fun z => absurd ((congrArg (fun t => lg_cmp _ t) ((pl_wt hRl (fun h => (dB_iff.mp (and_r h)).1))).symm).trans (lg_self _)) z)
set_option maxHeartbeats 8000000 in
set_option maxRecDepth 100000 in
theorem law_weight {p : Program} {l : Launch} {e : Env} {s : State} {m : MethodId} {below : List Frame} {meth : Method} {c : Code} {D : va_G} {a b : Nat → Nat} {cs : Nat → ClassId} {bs L : Nat} {xs : Nat → Int32} (C0 : lw_At p s m meth c bs L xs) (hL : L ≤ 1536) (hK : va_K D vwCl (tyX cs) s) (ha : wInj a) (hb2 : wInjM b) (haL : ∀ k, k < 17 → s.heap.size ≤ a k) (hbL : ∀ k, k < 12 → s.heap.size ≤ b k) (hab : ∀ i j, i < 17 → j < 12 → a i ≠ b j) {i : Nat} (hi : i + 3 ≤ L) (tp : TpT) (wd : (Nat → Nat) × Nat) (lx : LxT) (ro : Nat → Nat) (rs : RsT) (ml : MlT) (mr : MrT) (mk : (Nat → Bool) × (Nat → Nat) × (Nat → Nat)) (hV : LInv tp wd lx rs ml mr) {H : Heap} {locs : List Loc} (hX : va_P D vwCl (wX a cs tp wd lx ro rs) H) (hM : va_P D vwCl (wM b cs tp ml mr mk) H) (hS : va_S (fun q : Nat => s.heap.size ≤ q) s.heap H locs) {ls : Array Slot} (hl : lv_has ls 4 [(0, .ref bs), (1, .ref (a 0)), (2, .ref (b 0)), (3, .int (nI i))]) (hk : ∀ (tp : TpT) (wd : (Nat → Nat) × Nat) (lx : LxT) (ro : Nat → Nat) (rs : RsT) (ml : MlT) (mr : MrT) (mk : (Nat → Bool) × (Nat → Nat) × (Nat → Nat)), LInv tp wd lx rs ml mr → ∀ (H : Heap) (locs : List Loc), va_P D vwCl (wX a cs tp wd lx ro rs) H → va_P D vwCl (wM b cs tp ml mr mk) H → va_S (fun q : Nat => s.heap.size ≤ q) s.heap H locs → W p l e room_1 s m #[Value.ref bs] below meth c H locs 29 27686 (lw_Z below #[Value.ref bs] s) (F0 m 501 ls [])) : W p l e room_1 s m #[Value.ref bs] below meth c H locs 29 27686 (lw_Z below #[Value.ref bs] s) (F0 m 252 ls []) := by
  obtain ⟨hx, hb, hr, hml, hown, hts0, hXs, hbl, hlocks, hgv⟩ := C0
  have hown : s.vm.findClass RL = some m.cls := hown
  have hts : ∀ w ∈ wsL_law, w.before #[Value.ref bs] s = true := fun w h => hts0 w (wsL_law_in w h)
  have hbA : ¬ (fun q : Nat => s.heap.size ≤ q) bs := Nat.not_le.mpr hbl
  have hAX : ∀ q, inX a q → s.heap.size ≤ q := fun q ⟨k, hk, e⟩ => e ▸ haL k hk
  have hAM : ∀ q, inM b q → s.heap.size ≤ q := fun q ⟨k, hk, e⟩ => e ▸ hbL k hk
  obtain ⟨hT, hW, hI, ⟨hR, hnr⟩, hMl, hMr, hRl, hRR⟩ := id hV
  have hp9 := plX_is hI (qF tp) tp.2
  have hfn := rel_fn hI hRl hp9
  have hr6 : (plX lx (qF tp) tp.2) ≤ 600 := Nat.le_trans hp9.1 hI.1.1
  refine lv_aload_n hx hb dL_law_252 rfl (lv_at hl 1 rfl) ?_
  refine nz_callW (va_runV (As := []) (rest := []) ⟨hx, hb, hml, hown, hts⟩ (mX5_weight l D a cs tp wd lx ro rs (dB (goodT tp ∧ 0 < tp.2)) (plX lx (qF tp) tp.2) (dB (stdX lx (qF tp) tp.2 (plX lx (qF tp) tp.2))) ha hI hT hW dB_iff hp9 dB_iff) (cwV 0 hts gL_law_X5_weight rfl rfl rfl (by decide +kernel) ⟨Nat.le_of_ble_eq_true rfl, Nat.le_of_ble_eq_true rfl⟩) (nz_preV (ci := 5) (q0 := 0) hK hX rfl rfl) rfl rfl hl.1 rfl (lv_room (Nat.le_of_ble_eq_true rfl)) dL_law_253 ⟨Nat.le_of_ble_eq_true rfl, Nat.le_of_ble_eq_true rfl⟩) hS hAX (fun H locs hX _ hk1 hS => ?_)
  obtain ⟨wd2, hwd2, hX⟩ := hX
  have hM := keepM hM hk1 hab
  refine lv_aload_n hx hb dL_law_256 rfl (lv_at hl 2 rfl) ?_
  refine nz_callW (va_runV (As := []) (rest := [_]) ⟨hx, hb, hml, hown, hts⟩ (mX6_weight l D b cs tp ml mr mk (dB (goodT tp ∧ 0 < tp.2)) (plX lx (qF tp) tp.2) (dB (stdX lx (qF tp) tp.2 (plX lx (qF tp) tp.2))) hb2 hMl hT dB_iff hfn hr6) (cwV 0 hts gL_law_X6_weight rfl rfl rfl (by decide +kernel) ⟨Nat.le_of_ble_eq_true rfl, Nat.le_of_ble_eq_true rfl⟩) (nz_preV (ci := 6) (q0 := 0) hK hM rfl rfl) rfl rfl hl.1 rfl (lv_room (Nat.le_of_ble_eq_true rfl)) dL_law_257 ⟨Nat.le_of_ble_eq_true rfl, Nat.le_of_ble_eq_true rfl⟩) hS hAM (fun H locs hM _ hk1 hS => ?_)
  have hX := keepX hX hk1 hab
  refine W.lcmp hx hb dL_law_260 ?_
  exact lv_if_eq (tgt := 501) hx hb dL_law_261 (by decide) (fun _ => hk _ _ _ _ _ _ _ _ ⟨Nat.zero_le _, hwd2, hI, ⟨hR, hnr⟩, hMl, hMr, hRl, hRR⟩ H locs hX hM hS) (fun z => absurd ((congrArg (fun t => lg_cmp _ t) ((pl_wt hRl (fun h => (dB_iff.mp (and_r h)).1))).symm).trans (lg_self _)) z)
set_option maxHeartbeats 8000000 in
set_option maxRecDepth 100000 in
theorem law_ask {p : Program} {l : Launch} {e : Env} {s : State} {m : MethodId} {below : List Frame} {meth : Method} {c : Code} {D : va_G} {a b : Nat → Nat} {cs : Nat → ClassId} {bs L : Nat} {xs : Nat → Int32} (C0 : lw_At p s m meth c bs L xs) (hL : L ≤ 1536) (hK : va_K D vwCl (tyX cs) s) (ha : wInj a) (hb2 : wInjM b) (haL : ∀ k, k < 17 → s.heap.size ≤ a k) (hbL : ∀ k, k < 12 → s.heap.size ≤ b k) (hab : ∀ i j, i < 17 → j < 12 → a i ≠ b j) {i : Nat} (hi : i + 3 ≤ L) (tp : TpT) (wd : (Nat → Nat) × Nat) (lx : LxT) (ro : Nat → Nat) (rs : RsT) (ml : MlT) (mr : MrT) (mk : (Nat → Bool) × (Nat → Nat) × (Nat → Nat)) (hV : LInv tp wd lx rs ml mr) {H : Heap} {locs : List Loc} (hX : va_P D vwCl (wX a cs tp wd lx ro rs) H) (hM : va_P D vwCl (wM b cs tp ml mr mk) H) (hS : va_S (fun q : Nat => s.heap.size ≤ q) s.heap H locs) {ls : Array Slot} (hl : lv_has ls 4 [(0, .ref bs), (1, .ref (a 0)), (2, .ref (b 0)), (3, .int (nI i))]) (hk : ∀ (tp : TpT) (wd : (Nat → Nat) × Nat) (lx : LxT) (ro : Nat → Nat) (rs : RsT) (ml : MlT) (mr : MrT) (mk : (Nat → Bool) × (Nat → Nat) × (Nat → Nat)), LInv tp wd lx rs ml mr → ∀ (H : Heap) (locs : List Loc), va_P D vwCl (wX a cs tp wd lx ro rs) H → va_P D vwCl (wM b cs tp ml mr mk) H → va_S (fun q : Nat => s.heap.size ≤ q) s.heap H locs → W p l e room_1 s m #[Value.ref bs] below meth c H locs 29 27686 (lw_Z below #[Value.ref bs] s) (F0 m 501 ls [])) : W p l e room_1 s m #[Value.ref bs] below meth c H locs 29 27686 (lw_Z below #[Value.ref bs] s) (F0 m 266 ls []) := by
  obtain ⟨hx, hb, hr, hml, hown, hts0, hXs, hbl, hlocks, hgv⟩ := C0
  have hown : s.vm.findClass RL = some m.cls := hown
  have hts : ∀ w ∈ wsL_law, w.before #[Value.ref bs] s = true := fun w h => hts0 w (wsL_law_in w h)
  have hbA : ¬ (fun q : Nat => s.heap.size ≤ q) bs := Nat.not_le.mpr hbl
  have hAX : ∀ q, inX a q → s.heap.size ≤ q := fun q ⟨k, hk, e⟩ => e ▸ haL k hk
  have hAM : ∀ q, inM b q → s.heap.size ≤ q := fun q ⟨k, hk, e⟩ => e ▸ hbL k hk
  obtain ⟨hT, hW, hI, ⟨hR, hnr⟩, hMl, hMr, hRl, hRR⟩ := id hV
  obtain ⟨pl, cn, htop⟩ := top_ex (fun u => decide (nrF (qF tp) tp.2 (TX lx u) (ZX lx u) ≤ (xs (i + 2)).toNatClampNeg)) lx.2.2.1 (xs (i + 1)).toNatClampNeg lx.2.2.2
  refine lv_aload_n hx hb dL_law_266 rfl (lv_at hl 1 rfl) ?_
  refine lv_aload_n hx hb dL_law_267 rfl (lv_at hl 0 rfl) ?_
  refine lv_iload_n hx hb dL_law_268 rfl (lv_at hl 3 rfl) ?_
  refine lv_iconst (v := nI 1) hx hb dL_law_269 (by decide +kernel) ?_
  refine nz_iadd (a := i) (b := 1) hx hb dL_law_270 ?_
  refine nz_sld (k := i + 1) hx hb hXs hbl hbA hS (by omega) (by omega) dL_law_271 ?_
  refine lv_aload_n hx hb dL_law_272 rfl (lv_at hl 0 rfl) ?_
  refine lv_iload_n hx hb dL_law_273 rfl (lv_at hl 3 rfl) ?_
  refine lv_iconst (v := nI 2) hx hb dL_law_274 (by decide +kernel) ?_
  refine nz_iadd (a := i) (b := 2) hx hb dL_law_275 ?_
  refine nz_sld (k := i + 2) hx hb hXs hbl hbA hS (by omega) (by omega) dL_law_276 ?_
  refine nz_callW (va_runV (As := [.int (xs (i + 1)), .int (xs (i + 2))]) (rest := []) ⟨hx, hb, hml, hown, hts⟩ (mX5_ask l D a cs tp wd lx ro rs (xs (i + 1)) (xs (i + 2)) (dB (goodT tp)) (dB (askOk (xs (i + 1)) (xs (i + 2)))) pl cn ha hI hT hW hR hnr dB_iff dB_iff (fun _ => htop)) (cwV 2 hts gL_law_X5_ask rfl rfl rfl (by decide +kernel) ⟨Nat.le_of_ble_eq_true rfl, Nat.le_of_ble_eq_true rfl⟩) (nz_preV (ci := 5) (q0 := 0) hK hX rfl rfl) rfl rfl hl.1 rfl (lv_room (Nat.le_of_ble_eq_true rfl)) dL_law_277 ⟨Nat.le_of_ble_eq_true rfl, Nat.le_of_ble_eq_true rfl⟩) hS hAX (fun H locs hX _ hk1 hS => ?_)
  obtain ⟨wd2, ro2, rs2, hwd2, hR2, hnr2, hr1, hr2, hX⟩ := hX
  have hM := keepM hM hk1 hab
  refine lv_aload_n hx hb dL_law_280 rfl (lv_at hl 2 rfl) ?_
  refine lv_aload_n hx hb dL_law_281 rfl (lv_at hl 0 rfl) ?_
  refine lv_iload_n hx hb dL_law_282 rfl (lv_at hl 3 rfl) ?_
  refine lv_iconst (v := nI 1) hx hb dL_law_283 (by decide +kernel) ?_
  refine nz_iadd (a := i) (b := 1) hx hb dL_law_284 ?_
  refine nz_sld (k := i + 1) hx hb hXs hbl hbA hS (by omega) (by omega) dL_law_285 ?_
  refine lv_aload_n hx hb dL_law_286 rfl (lv_at hl 0 rfl) ?_
  refine lv_iload_n hx hb dL_law_287 rfl (lv_at hl 3 rfl) ?_
  refine lv_iconst (v := nI 2) hx hb dL_law_288 (by decide +kernel) ?_
  refine nz_iadd (a := i) (b := 2) hx hb dL_law_289 ?_
  refine nz_sld (k := i + 2) hx hb hXs hbl hbA hS (by omega) (by omega) dL_law_290 ?_
  refine nz_callW (va_runV (As := [.int (xs (i + 1)), .int (xs (i + 2))]) (rest := [_]) ⟨hx, hb, hml, hown, hts⟩ (mX6_ask l D b cs tp ml mr mk (xs (i + 1)) (xs (i + 2)) (dB (goodT tp)) (dB (askOk (xs (i + 1)) (xs (i + 2)))) pl cn hb2 hMl hT hMr dB_iff dB_iff (fun _ => rel_top hRl htop)) (cwV 2 hts gL_law_X6_ask rfl rfl rfl (by decide +kernel) ⟨Nat.le_of_ble_eq_true rfl, Nat.le_of_ble_eq_true rfl⟩) (nz_preV (ci := 6) (q0 := 0) hK hM rfl rfl) rfl rfl hl.1 rfl (lv_room (Nat.le_of_ble_eq_true rfl)) dL_law_291 ⟨Nat.le_of_ble_eq_true rfl, Nat.le_of_ble_eq_true rfl⟩) hS hAM (fun H locs hM _ hk1 hS => ?_)
  obtain ⟨mr9, mk9, hMr9, hg1, hg2, hM⟩ := hM
  have hs9 := ask_inv (tp := tp) hI hRl hRR (fun _ => htop) hr1 hr2 hg1 hg2
  have hX := keepX hX hk1 hab
  exact lv_icmp_eq (tgt := 501) hx hb dL_law_294 (by decide) (fun _ => hk _ _ _ _ _ _ _ _ ⟨Nat.zero_le _, hwd2, hI, ⟨hR2, hnr2⟩, hMl, hMr9, hRl, hs9⟩ H locs hX hM hS) (fun z => absurd (rfl) z)
set_option maxHeartbeats 8000000 in
set_option maxRecDepth 100000 in
theorem law_near {p : Program} {l : Launch} {e : Env} {s : State} {m : MethodId} {below : List Frame} {meth : Method} {c : Code} {D : va_G} {a b : Nat → Nat} {cs : Nat → ClassId} {bs L : Nat} {xs : Nat → Int32} (C0 : lw_At p s m meth c bs L xs) (hL : L ≤ 1536) (hK : va_K D vwCl (tyX cs) s) (ha : wInj a) (hb2 : wInjM b) (haL : ∀ k, k < 17 → s.heap.size ≤ a k) (hbL : ∀ k, k < 12 → s.heap.size ≤ b k) (hab : ∀ i j, i < 17 → j < 12 → a i ≠ b j) {i : Nat} (hi : i + 3 ≤ L) (tp : TpT) (wd : (Nat → Nat) × Nat) (lx : LxT) (ro : Nat → Nat) (rs : RsT) (ml : MlT) (mr : MrT) (mk : (Nat → Bool) × (Nat → Nat) × (Nat → Nat)) (hV : LInv tp wd lx rs ml mr) {H : Heap} {locs : List Loc} (hX : va_P D vwCl (wX a cs tp wd lx ro rs) H) (hM : va_P D vwCl (wM b cs tp ml mr mk) H) (hS : va_S (fun q : Nat => s.heap.size ≤ q) s.heap H locs) {ls : Array Slot} (hl : lv_has ls 4 [(0, .ref bs), (1, .ref (a 0)), (2, .ref (b 0)), (3, .int (nI i))]) (hk : ∀ (tp : TpT) (wd : (Nat → Nat) × Nat) (lx : LxT) (ro : Nat → Nat) (rs : RsT) (ml : MlT) (mr : MrT) (mk : (Nat → Bool) × (Nat → Nat) × (Nat → Nat)), LInv tp wd lx rs ml mr → ∀ (H : Heap) (locs : List Loc), va_P D vwCl (wX a cs tp wd lx ro rs) H → va_P D vwCl (wM b cs tp ml mr mk) H → va_S (fun q : Nat => s.heap.size ≤ q) s.heap H locs → W p l e room_1 s m #[Value.ref bs] below meth c H locs 29 27686 (lw_Z below #[Value.ref bs] s) (F0 m 501 ls [])) : W p l e room_1 s m #[Value.ref bs] below meth c H locs 29 27686 (lw_Z below #[Value.ref bs] s) (F0 m 299 ls []) := by
  obtain ⟨hx, hb, hr, hml, hown, hts0, hXs, hbl, hlocks, hgv⟩ := C0
  have hown : s.vm.findClass RL = some m.cls := hown
  have hts : ∀ w ∈ wsL_law, w.before #[Value.ref bs] s = true := fun w h => hts0 w (wsL_law_in w h)
  have hbA : ¬ (fun q : Nat => s.heap.size ≤ q) bs := Nat.not_le.mpr hbl
  have hAX : ∀ q, inX a q → s.heap.size ≤ q := fun q ⟨k, hk, e⟩ => e ▸ haL k hk
  have hAM : ∀ q, inM b q → s.heap.size ≤ q := fun q ⟨k, hk, e⟩ => e ▸ hbL k hk
  obtain ⟨hT, hW, hI, ⟨hR, hnr⟩, hMl, hMr, hRl, hRR⟩ := id hV
  refine lv_aload_n hx hb dL_law_299 rfl (lv_at hl 1 rfl) ?_
  refine lv_aload_n hx hb dL_law_300 rfl (lv_at hl 0 rfl) ?_
  refine lv_iload_n hx hb dL_law_301 rfl (lv_at hl 3 rfl) ?_
  refine lv_iconst (v := nI 1) hx hb dL_law_302 (by decide +kernel) ?_
  refine nz_iadd (a := i) (b := 1) hx hb dL_law_303 ?_
  refine nz_sld (k := i + 1) hx hb hXs hbl hbA hS (by omega) (by omega) dL_law_304 ?_
  refine nz_callW (va_runV (As := [.int (xs (i + 1))]) (rest := []) ⟨hx, hb, hml, hown, hts⟩ (mX5_near l D a cs tp wd lx ro rs (xs (i + 1)) (dB (goodT tp)) (dB (dOk (xs (i + 1)))) ha hI hT hW dB_iff dB_iff) (cwV 1 hts gL_law_X5_near rfl rfl rfl (by decide +kernel) ⟨Nat.le_of_ble_eq_true rfl, Nat.le_of_ble_eq_true rfl⟩) (nz_preV (ci := 5) (q0 := 0) hK hX rfl rfl) rfl rfl hl.1 rfl (lv_room (Nat.le_of_ble_eq_true rfl)) dL_law_305 ⟨Nat.le_of_ble_eq_true rfl, Nat.le_of_ble_eq_true rfl⟩) hS hAX (fun H locs hX _ hk1 hS => ?_)
  obtain ⟨wd2, ro2, hwd2, hX⟩ := hX
  have hM := keepM hM hk1 hab
  refine lv_aload_n hx hb dL_law_308 rfl (lv_at hl 2 rfl) ?_
  refine lv_aload_n hx hb dL_law_309 rfl (lv_at hl 0 rfl) ?_
  refine lv_iload_n hx hb dL_law_310 rfl (lv_at hl 3 rfl) ?_
  refine lv_iconst (v := nI 1) hx hb dL_law_311 (by decide +kernel) ?_
  refine nz_iadd (a := i) (b := 1) hx hb dL_law_312 ?_
  refine nz_sld (k := i + 1) hx hb hXs hbl hbA hS (by omega) (by omega) dL_law_313 ?_
  refine nz_callW (va_runV (As := [.int (xs (i + 1))]) (rest := [_]) ⟨hx, hb, hml, hown, hts⟩ (mX6_near l D b cs tp ml mr mk (xs (i + 1)) (dB (goodT tp)) (dB (dOk (xs (i + 1)))) hb2 hMl hT dB_iff dB_iff) (cwV 1 hts gL_law_X6_near rfl rfl rfl (by decide +kernel) ⟨Nat.le_of_ble_eq_true rfl, Nat.le_of_ble_eq_true rfl⟩) (nz_preV (ci := 6) (q0 := 0) hK hM rfl rfl) rfl rfl hl.1 rfl (lv_room (Nat.le_of_ble_eq_true rfl)) dL_law_314 ⟨Nat.le_of_ble_eq_true rfl, Nat.le_of_ble_eq_true rfl⟩) hS hAM (fun H locs hM _ hk1 hS => ?_)
  obtain ⟨mk9, hM⟩ := hM
  have hX := keepX hX hk1 hab
  exact lv_icmp_eq (tgt := 501) hx hb dL_law_317 (by decide) (fun _ => hk _ _ _ _ _ _ _ _ ⟨Nat.zero_le _, hwd2, hI, ⟨hR, hnr⟩, hMl, hMr, hRl, hRR⟩ H locs hX hM hS) (fun z => absurd (by rw [rel_near hRl]) z)
set_option maxHeartbeats 8000000 in
set_option maxRecDepth 100000 in
theorem law_best {p : Program} {l : Launch} {e : Env} {s : State} {m : MethodId} {below : List Frame} {meth : Method} {c : Code} {D : va_G} {a b : Nat → Nat} {cs : Nat → ClassId} {bs L : Nat} {xs : Nat → Int32} (C0 : lw_At p s m meth c bs L xs) (hL : L ≤ 1536) (hK : va_K D vwCl (tyX cs) s) (ha : wInj a) (hb2 : wInjM b) (haL : ∀ k, k < 17 → s.heap.size ≤ a k) (hbL : ∀ k, k < 12 → s.heap.size ≤ b k) (hab : ∀ i j, i < 17 → j < 12 → a i ≠ b j) {i : Nat} (hi : i + 3 ≤ L) (tp : TpT) (wd : (Nat → Nat) × Nat) (lx : LxT) (ro : Nat → Nat) (rs : RsT) (ml : MlT) (mr : MrT) (mk : (Nat → Bool) × (Nat → Nat) × (Nat → Nat)) (hV : LInv tp wd lx rs ml mr) {H : Heap} {locs : List Loc} (hX : va_P D vwCl (wX a cs tp wd lx ro rs) H) (hM : va_P D vwCl (wM b cs tp ml mr mk) H) (hS : va_S (fun q : Nat => s.heap.size ≤ q) s.heap H locs) {ls : Array Slot} (hl : lv_has ls 4 [(0, .ref bs), (1, .ref (a 0)), (2, .ref (b 0)), (3, .int (nI i))]) (hk : ∀ (tp : TpT) (wd : (Nat → Nat) × Nat) (lx : LxT) (ro : Nat → Nat) (rs : RsT) (ml : MlT) (mr : MrT) (mk : (Nat → Bool) × (Nat → Nat) × (Nat → Nat)), LInv tp wd lx rs ml mr → ∀ (H : Heap) (locs : List Loc), va_P D vwCl (wX a cs tp wd lx ro rs) H → va_P D vwCl (wM b cs tp ml mr mk) H → va_S (fun q : Nat => s.heap.size ≤ q) s.heap H locs → W p l e room_1 s m #[Value.ref bs] below meth c H locs 29 27686 (lw_Z below #[Value.ref bs] s) (F0 m 501 ls [])) : W p l e room_1 s m #[Value.ref bs] below meth c H locs 29 27686 (lw_Z below #[Value.ref bs] s) (F0 m 322 ls []) := by
  obtain ⟨hx, hb, hr, hml, hown, hts0, hXs, hbl, hlocks, hgv⟩ := C0
  have hown : s.vm.findClass RL = some m.cls := hown
  have hts : ∀ w ∈ wsL_law, w.before #[Value.ref bs] s = true := fun w h => hts0 w (wsL_law_in w h)
  have hbA : ¬ (fun q : Nat => s.heap.size ≤ q) bs := Nat.not_le.mpr hbl
  have hAX : ∀ q, inX a q → s.heap.size ≤ q := fun q ⟨k, hk, e⟩ => e ▸ haL k hk
  have hAM : ∀ q, inM b q → s.heap.size ≤ q := fun q ⟨k, hk, e⟩ => e ▸ hbL k hk
  obtain ⟨hT, hW, hI, ⟨hR, hnr⟩, hMl, hMr, hRl, hRR⟩ := id hV
  refine lv_aload_n hx hb dL_law_322 rfl (lv_at hl 1 rfl) ?_
  refine nz_callW (va_runV (As := []) (rest := []) ⟨hx, hb, hml, hown, hts⟩ (mX5_best l D a cs tp wd lx ro rs (dB (goodT tp)) ha hI hT hW dB_iff) (cwV 0 hts gL_law_X5_best rfl rfl rfl (by decide +kernel) ⟨Nat.le_of_ble_eq_true rfl, Nat.le_of_ble_eq_true rfl⟩) (nz_preV (ci := 5) (q0 := 0) hK hX rfl rfl) rfl rfl hl.1 rfl (lv_room (Nat.le_of_ble_eq_true rfl)) dL_law_323 ⟨Nat.le_of_ble_eq_true rfl, Nat.le_of_ble_eq_true rfl⟩) hS hAX (fun H locs hX _ hk1 hS => ?_)
  obtain ⟨wd2, hwd2, hX⟩ := hX
  have hM := keepM hM hk1 hab
  refine lv_aload_n hx hb dL_law_326 rfl (lv_at hl 2 rfl) ?_
  refine nz_callW (va_runV (As := []) (rest := [_]) ⟨hx, hb, hml, hown, hts⟩ (mX6_best l D b cs tp ml mr mk (dB (goodT tp)) hb2 hMl hT dB_iff) (cwV 0 hts gL_law_X6_best rfl rfl rfl (by decide +kernel) ⟨Nat.le_of_ble_eq_true rfl, Nat.le_of_ble_eq_true rfl⟩) (nz_preV (ci := 6) (q0 := 0) hK hM rfl rfl) rfl rfl hl.1 rfl (lv_room (Nat.le_of_ble_eq_true rfl)) dL_law_327 ⟨Nat.le_of_ble_eq_true rfl, Nat.le_of_ble_eq_true rfl⟩) hS hAM (fun H locs hM _ hk1 hS => ?_)
  have hX := keepX hX hk1 hab
  refine W.lcmp hx hb dL_law_330 ?_
  exact lv_if_eq (tgt := 501) hx hb dL_law_331 (by decide) (fun _ => hk _ _ _ _ _ _ _ _ ⟨Nat.zero_le _, hwd2, hI, ⟨hR, hnr⟩, hMl, hMr, hRl, hRR⟩ H locs hX hM hS) (fun z => absurd ((congrArg (fun t => lg_cmp _ t) ((show _ = _ by rw [rel_best hRl])).symm).trans (lg_self _)) z)
set_option maxHeartbeats 8000000 in
set_option maxRecDepth 100000 in
theorem law_rank {p : Program} {l : Launch} {e : Env} {s : State} {m : MethodId} {below : List Frame} {meth : Method} {c : Code} {D : va_G} {a b : Nat → Nat} {cs : Nat → ClassId} {bs L : Nat} {xs : Nat → Int32} (C0 : lw_At p s m meth c bs L xs) (hL : L ≤ 1536) (hK : va_K D vwCl (tyX cs) s) (ha : wInj a) (hb2 : wInjM b) (haL : ∀ k, k < 17 → s.heap.size ≤ a k) (hbL : ∀ k, k < 12 → s.heap.size ≤ b k) (hab : ∀ i j, i < 17 → j < 12 → a i ≠ b j) {i : Nat} (hi : i + 3 ≤ L) (tp : TpT) (wd : (Nat → Nat) × Nat) (lx : LxT) (ro : Nat → Nat) (rs : RsT) (ml : MlT) (mr : MrT) (mk : (Nat → Bool) × (Nat → Nat) × (Nat → Nat)) (hV : LInv tp wd lx rs ml mr) {H : Heap} {locs : List Loc} (hX : va_P D vwCl (wX a cs tp wd lx ro rs) H) (hM : va_P D vwCl (wM b cs tp ml mr mk) H) (hS : va_S (fun q : Nat => s.heap.size ≤ q) s.heap H locs) {ls : Array Slot} (hl : lv_has ls 4 [(0, .ref bs), (1, .ref (a 0)), (2, .ref (b 0)), (3, .int (nI i))]) (hk : ∀ (tp : TpT) (wd : (Nat → Nat) × Nat) (lx : LxT) (ro : Nat → Nat) (rs : RsT) (ml : MlT) (mr : MrT) (mk : (Nat → Bool) × (Nat → Nat) × (Nat → Nat)), LInv tp wd lx rs ml mr → ∀ (H : Heap) (locs : List Loc), va_P D vwCl (wX a cs tp wd lx ro rs) H → va_P D vwCl (wM b cs tp ml mr mk) H → va_S (fun q : Nat => s.heap.size ≤ q) s.heap H locs → W p l e room_1 s m #[Value.ref bs] below meth c H locs 29 27686 (lw_Z below #[Value.ref bs] s) (F0 m 501 ls [])) : W p l e room_1 s m #[Value.ref bs] below meth c H locs 29 27686 (lw_Z below #[Value.ref bs] s) (F0 m 336 ls []) := by
  obtain ⟨hx, hb, hr, hml, hown, hts0, hXs, hbl, hlocks, hgv⟩ := C0
  have hown : s.vm.findClass RL = some m.cls := hown
  have hts : ∀ w ∈ wsL_law, w.before #[Value.ref bs] s = true := fun w h => hts0 w (wsL_law_in w h)
  have hbA : ¬ (fun q : Nat => s.heap.size ≤ q) bs := Nat.not_le.mpr hbl
  have hAX : ∀ q, inX a q → s.heap.size ≤ q := fun q ⟨k, hk, e⟩ => e ▸ haL k hk
  have hAM : ∀ q, inM b q → s.heap.size ≤ q := fun q ⟨k, hk, e⟩ => e ▸ hbL k hk
  obtain ⟨hT, hW, hI, ⟨hR, hnr⟩, hMl, hMr, hRl, hRR⟩ := id hV
  have hp9 := plX_is hI (qF tp) tp.2
  have hfn := rel_fn hI hRl hp9
  have hr6 : (plX lx (qF tp) tp.2) ≤ 600 := Nat.le_trans hp9.1 hI.1.1
  refine lv_aload_n hx hb dL_law_336 rfl (lv_at hl 1 rfl) ?_
  refine nz_callW (va_runV (As := []) (rest := []) ⟨hx, hb, hml, hown, hts⟩ (mX5_rank l D a cs tp wd lx ro rs (dB (goodT tp ∧ 0 < tp.2)) (plX lx (qF tp) tp.2) (dB (stdX lx (qF tp) tp.2 (plX lx (qF tp) tp.2))) ha hI hT hW dB_iff hp9 dB_iff) (cwV 0 hts gL_law_X5_rank rfl rfl rfl (by decide +kernel) ⟨Nat.le_of_ble_eq_true rfl, Nat.le_of_ble_eq_true rfl⟩) (nz_preV (ci := 5) (q0 := 0) hK hX rfl rfl) rfl rfl hl.1 rfl (lv_room (Nat.le_of_ble_eq_true rfl)) dL_law_337 ⟨Nat.le_of_ble_eq_true rfl, Nat.le_of_ble_eq_true rfl⟩) hS hAX (fun H locs hX _ hk1 hS => ?_)
  obtain ⟨wd2, hwd2, hX⟩ := hX
  have hM := keepM hM hk1 hab
  refine lv_aload_n hx hb dL_law_340 rfl (lv_at hl 2 rfl) ?_
  refine nz_callW (va_runV (As := []) (rest := [_]) ⟨hx, hb, hml, hown, hts⟩ (mX6_rank l D b cs tp ml mr mk (dB (goodT tp ∧ 0 < tp.2)) (plX lx (qF tp) tp.2) (dB (stdX lx (qF tp) tp.2 (plX lx (qF tp) tp.2))) hb2 hMl hT dB_iff hfn hr6) (cwV 0 hts gL_law_X6_rank rfl rfl rfl (by decide +kernel) ⟨Nat.le_of_ble_eq_true rfl, Nat.le_of_ble_eq_true rfl⟩) (nz_preV (ci := 6) (q0 := 0) hK hM rfl rfl) rfl rfl hl.1 rfl (lv_room (Nat.le_of_ble_eq_true rfl)) dL_law_341 ⟨Nat.le_of_ble_eq_true rfl, Nat.le_of_ble_eq_true rfl⟩) hS hAM (fun H locs hM _ hk1 hS => ?_)
  have hX := keepX hX hk1 hab
  exact lv_icmp_eq (tgt := 501) hx hb dL_law_344 (by decide) (fun _ => hk _ _ _ _ _ _ _ _ ⟨Nat.zero_le _, hwd2, hI, ⟨hR, hnr⟩, hMl, hMr, hRl, hRR⟩ H locs hX hM hS) (fun z => absurd (pl_rk hRl (fun h => (dB_iff.mp (and_r h)).1)) z)
set_option maxHeartbeats 8000000 in
set_option maxRecDepth 100000 in
theorem law_found {p : Program} {l : Launch} {e : Env} {s : State} {m : MethodId} {below : List Frame} {meth : Method} {c : Code} {D : va_G} {a b : Nat → Nat} {cs : Nat → ClassId} {bs L : Nat} {xs : Nat → Int32} (C0 : lw_At p s m meth c bs L xs) (hL : L ≤ 1536) (hK : va_K D vwCl (tyX cs) s) (ha : wInj a) (hb2 : wInjM b) (haL : ∀ k, k < 17 → s.heap.size ≤ a k) (hbL : ∀ k, k < 12 → s.heap.size ≤ b k) (hab : ∀ i j, i < 17 → j < 12 → a i ≠ b j) {i : Nat} (hi : i + 3 ≤ L) (tp : TpT) (wd : (Nat → Nat) × Nat) (lx : LxT) (ro : Nat → Nat) (rs : RsT) (ml : MlT) (mr : MrT) (mk : (Nat → Bool) × (Nat → Nat) × (Nat → Nat)) (hV : LInv tp wd lx rs ml mr) {H : Heap} {locs : List Loc} (hX : va_P D vwCl (wX a cs tp wd lx ro rs) H) (hM : va_P D vwCl (wM b cs tp ml mr mk) H) (hS : va_S (fun q : Nat => s.heap.size ≤ q) s.heap H locs) {ls : Array Slot} (hl : lv_has ls 4 [(0, .ref bs), (1, .ref (a 0)), (2, .ref (b 0)), (3, .int (nI i))]) (hk : ∀ (tp : TpT) (wd : (Nat → Nat) × Nat) (lx : LxT) (ro : Nat → Nat) (rs : RsT) (ml : MlT) (mr : MrT) (mk : (Nat → Bool) × (Nat → Nat) × (Nat → Nat)), LInv tp wd lx rs ml mr → ∀ (H : Heap) (locs : List Loc), va_P D vwCl (wX a cs tp wd lx ro rs) H → va_P D vwCl (wM b cs tp ml mr mk) H → va_S (fun q : Nat => s.heap.size ≤ q) s.heap H locs → W p l e room_1 s m #[Value.ref bs] below meth c H locs 29 27686 (lw_Z below #[Value.ref bs] s) (F0 m 501 ls [])) : W p l e room_1 s m #[Value.ref bs] below meth c H locs 29 27686 (lw_Z below #[Value.ref bs] s) (F0 m 349 ls []) := by
  obtain ⟨hx, hb, hr, hml, hown, hts0, hXs, hbl, hlocks, hgv⟩ := C0
  have hown : s.vm.findClass RL = some m.cls := hown
  have hts : ∀ w ∈ wsL_law, w.before #[Value.ref bs] s = true := fun w h => hts0 w (wsL_law_in w h)
  have hbA : ¬ (fun q : Nat => s.heap.size ≤ q) bs := Nat.not_le.mpr hbl
  have hAX : ∀ q, inX a q → s.heap.size ≤ q := fun q ⟨k, hk, e⟩ => e ▸ haL k hk
  have hAM : ∀ q, inM b q → s.heap.size ≤ q := fun q ⟨k, hk, e⟩ => e ▸ hbL k hk
  obtain ⟨hT, hW, hI, ⟨hR, hnr⟩, hMl, hMr, hRl, hRR⟩ := id hV
  refine lv_aload_n hx hb dL_law_349 rfl (lv_at hl 1 rfl) ?_
  refine nz_callR (va_runV (As := []) (rest := []) ⟨hx, hb, hml, hown, hts⟩ (mX5_found l D a cs tp wd lx ro rs) (cwV 0 hts gL_law_X5_found rfl rfl rfl (by decide +kernel) ⟨Nat.le_of_ble_eq_true rfl, Nat.le_of_ble_eq_true rfl⟩) (nz_preV (ci := 5) (q0 := 0) hK hX rfl rfl) rfl rfl hl.1 rfl (lv_room (Nat.le_of_ble_eq_true rfl)) dL_law_350 ⟨Nat.le_of_ble_eq_true rfl, Nat.le_of_ble_eq_true rfl⟩) ?_
  refine lv_aload_n hx hb dL_law_353 rfl (lv_at hl 2 rfl) ?_
  refine nz_callR (va_runV (As := []) (rest := [_]) ⟨hx, hb, hml, hown, hts⟩ (mX6_found l D b cs tp ml mr mk) (cwV 0 hts gL_law_X6_found rfl rfl rfl (by decide +kernel) ⟨Nat.le_of_ble_eq_true rfl, Nat.le_of_ble_eq_true rfl⟩) (nz_preV (ci := 6) (q0 := 0) hK hM rfl rfl) rfl rfl hl.1 rfl (lv_room (Nat.le_of_ble_eq_true rfl)) dL_law_354 ⟨Nat.le_of_ble_eq_true rfl, Nat.le_of_ble_eq_true rfl⟩) ?_
  exact lv_icmp_eq (tgt := 501) hx hb dL_law_357 (by decide) (fun _ => hk _ _ _ _ _ _ _ _ hV _ _ hX hM hS) (fun z => absurd (by rw [hRR.1]) z)
set_option maxHeartbeats 8000000 in
set_option maxRecDepth 100000 in
theorem law_letter {p : Program} {l : Launch} {e : Env} {s : State} {m : MethodId} {below : List Frame} {meth : Method} {c : Code} {D : va_G} {a b : Nat → Nat} {cs : Nat → ClassId} {bs L : Nat} {xs : Nat → Int32} (C0 : lw_At p s m meth c bs L xs) (hL : L ≤ 1536) (hK : va_K D vwCl (tyX cs) s) (ha : wInj a) (hb2 : wInjM b) (haL : ∀ k, k < 17 → s.heap.size ≤ a k) (hbL : ∀ k, k < 12 → s.heap.size ≤ b k) (hab : ∀ i j, i < 17 → j < 12 → a i ≠ b j) {i : Nat} (hi : i + 3 ≤ L) (tp : TpT) (wd : (Nat → Nat) × Nat) (lx : LxT) (ro : Nat → Nat) (rs : RsT) (ml : MlT) (mr : MrT) (mk : (Nat → Bool) × (Nat → Nat) × (Nat → Nat)) (hV : LInv tp wd lx rs ml mr) {H : Heap} {locs : List Loc} (hX : va_P D vwCl (wX a cs tp wd lx ro rs) H) (hM : va_P D vwCl (wM b cs tp ml mr mk) H) (hS : va_S (fun q : Nat => s.heap.size ≤ q) s.heap H locs) {ls : Array Slot} (hl : lv_has ls 4 [(0, .ref bs), (1, .ref (a 0)), (2, .ref (b 0)), (3, .int (nI i))]) (hk : ∀ (tp : TpT) (wd : (Nat → Nat) × Nat) (lx : LxT) (ro : Nat → Nat) (rs : RsT) (ml : MlT) (mr : MrT) (mk : (Nat → Bool) × (Nat → Nat) × (Nat → Nat)), LInv tp wd lx rs ml mr → ∀ (H : Heap) (locs : List Loc), va_P D vwCl (wX a cs tp wd lx ro rs) H → va_P D vwCl (wM b cs tp ml mr mk) H → va_S (fun q : Nat => s.heap.size ≤ q) s.heap H locs → W p l e room_1 s m #[Value.ref bs] below meth c H locs 29 27686 (lw_Z below #[Value.ref bs] s) (F0 m 501 ls [])) : W p l e room_1 s m #[Value.ref bs] below meth c H locs 29 27686 (lw_Z below #[Value.ref bs] s) (F0 m 362 ls []) := by
  obtain ⟨hx, hb, hr, hml, hown, hts0, hXs, hbl, hlocks, hgv⟩ := C0
  have hown : s.vm.findClass RL = some m.cls := hown
  have hts : ∀ w ∈ wsL_law, w.before #[Value.ref bs] s = true := fun w h => hts0 w (wsL_law_in w h)
  have hbA : ¬ (fun q : Nat => s.heap.size ≤ q) bs := Nat.not_le.mpr hbl
  have hAX : ∀ q, inX a q → s.heap.size ≤ q := fun q ⟨k, hk, e⟩ => e ▸ haL k hk
  have hAM : ∀ q, inM b q → s.heap.size ≤ q := fun q ⟨k, hk, e⟩ => e ▸ hbL k hk
  obtain ⟨hT, hW, hI, ⟨hR, hnr⟩, hMl, hMr, hRl, hRR⟩ := id hV
  refine lv_aload_n hx hb dL_law_362 rfl (lv_at hl 1 rfl) ?_
  refine lv_aload_n hx hb dL_law_363 rfl (lv_at hl 0 rfl) ?_
  refine lv_iload_n hx hb dL_law_364 rfl (lv_at hl 3 rfl) ?_
  refine lv_iconst (v := nI 1) hx hb dL_law_365 (by decide +kernel) ?_
  refine nz_iadd (a := i) (b := 1) hx hb dL_law_366 ?_
  refine nz_sld (k := i + 1) hx hb hXs hbl hbA hS (by omega) (by omega) dL_law_367 ?_
  refine lv_aload_n hx hb dL_law_368 rfl (lv_at hl 0 rfl) ?_
  refine lv_iload_n hx hb dL_law_369 rfl (lv_at hl 3 rfl) ?_
  refine lv_iconst (v := nI 2) hx hb dL_law_370 (by decide +kernel) ?_
  refine nz_iadd (a := i) (b := 2) hx hb dL_law_371 ?_
  refine nz_sld (k := i + 2) hx hb hXs hbl hbA hS (by omega) (by omega) dL_law_372 ?_
  refine nz_callR (va_runV (As := [.int (xs (i + 1)), .int (xs (i + 2))]) (rest := []) ⟨hx, hb, hml, hown, hts⟩ (mX5_letter l D a cs tp wd lx ro rs (xs (i + 1)) (xs (i + 2)) hR) (cwV 2 hts gL_law_X5_letter rfl rfl rfl (by decide +kernel) ⟨Nat.le_of_ble_eq_true rfl, Nat.le_of_ble_eq_true rfl⟩) (nz_preV (ci := 5) (q0 := 0) hK hX rfl rfl) rfl rfl hl.1 rfl (lv_room (Nat.le_of_ble_eq_true rfl)) dL_law_373 ⟨Nat.le_of_ble_eq_true rfl, Nat.le_of_ble_eq_true rfl⟩) ?_
  refine lv_aload_n hx hb dL_law_376 rfl (lv_at hl 2 rfl) ?_
  refine lv_aload_n hx hb dL_law_377 rfl (lv_at hl 0 rfl) ?_
  refine lv_iload_n hx hb dL_law_378 rfl (lv_at hl 3 rfl) ?_
  refine lv_iconst (v := nI 1) hx hb dL_law_379 (by decide +kernel) ?_
  refine nz_iadd (a := i) (b := 1) hx hb dL_law_380 ?_
  refine nz_sld (k := i + 1) hx hb hXs hbl hbA hS (by omega) (by omega) dL_law_381 ?_
  refine lv_aload_n hx hb dL_law_382 rfl (lv_at hl 0 rfl) ?_
  refine lv_iload_n hx hb dL_law_383 rfl (lv_at hl 3 rfl) ?_
  refine lv_iconst (v := nI 2) hx hb dL_law_384 (by decide +kernel) ?_
  refine nz_iadd (a := i) (b := 2) hx hb dL_law_385 ?_
  refine nz_sld (k := i + 2) hx hb hXs hbl hbA hS (by omega) (by omega) dL_law_386 ?_
  refine nz_callR (va_runV (As := [.int (xs (i + 1)), .int (xs (i + 2))]) (rest := [_]) ⟨hx, hb, hml, hown, hts⟩ (mX6_letter l D b cs tp ml mr mk (xs (i + 1)) (xs (i + 2)) hMr) (cwV 2 hts gL_law_X6_letter rfl rfl rfl (by decide +kernel) ⟨Nat.le_of_ble_eq_true rfl, Nat.le_of_ble_eq_true rfl⟩) (nz_preV (ci := 6) (q0 := 0) hK hM rfl rfl) rfl rfl hl.1 rfl (lv_room (Nat.le_of_ble_eq_true rfl)) dL_law_387 ⟨Nat.le_of_ble_eq_true rfl, Nat.le_of_ble_eq_true rfl⟩) ?_
  exact lv_icmp_eq (tgt := 501) hx hb dL_law_390 (by decide) (fun _ => hk _ _ _ _ _ _ _ _ hV _ _ hX hM hS) (fun z => absurd (rrel_letter hRR _ _) z)
set_option maxHeartbeats 8000000 in
set_option maxRecDepth 100000 in
theorem law_of {p : Program} {l : Launch} {e : Env} {s : State} {m : MethodId} {below : List Frame} {meth : Method} {c : Code} {D : va_G} {a b : Nat → Nat} {cs : Nat → ClassId} {bs L : Nat} {xs : Nat → Int32} (C0 : lw_At p s m meth c bs L xs) (hL : L ≤ 1536) (hK : va_K D vwCl (tyX cs) s) (ha : wInj a) (hb2 : wInjM b) (haL : ∀ k, k < 17 → s.heap.size ≤ a k) (hbL : ∀ k, k < 12 → s.heap.size ≤ b k) (hab : ∀ i j, i < 17 → j < 12 → a i ≠ b j) {i : Nat} (hi : i + 3 ≤ L) (tp : TpT) (wd : (Nat → Nat) × Nat) (lx : LxT) (ro : Nat → Nat) (rs : RsT) (ml : MlT) (mr : MrT) (mk : (Nat → Bool) × (Nat → Nat) × (Nat → Nat)) (hV : LInv tp wd lx rs ml mr) {H : Heap} {locs : List Loc} (hX : va_P D vwCl (wX a cs tp wd lx ro rs) H) (hM : va_P D vwCl (wM b cs tp ml mr mk) H) (hS : va_S (fun q : Nat => s.heap.size ≤ q) s.heap H locs) {ls : Array Slot} (hl : lv_has ls 4 [(0, .ref bs), (1, .ref (a 0)), (2, .ref (b 0)), (3, .int (nI i))]) (hk : ∀ (tp : TpT) (wd : (Nat → Nat) × Nat) (lx : LxT) (ro : Nat → Nat) (rs : RsT) (ml : MlT) (mr : MrT) (mk : (Nat → Bool) × (Nat → Nat) × (Nat → Nat)), LInv tp wd lx rs ml mr → ∀ (H : Heap) (locs : List Loc), va_P D vwCl (wX a cs tp wd lx ro rs) H → va_P D vwCl (wM b cs tp ml mr mk) H → va_S (fun q : Nat => s.heap.size ≤ q) s.heap H locs → W p l e room_1 s m #[Value.ref bs] below meth c H locs 29 27686 (lw_Z below #[Value.ref bs] s) (F0 m 501 ls [])) : W p l e room_1 s m #[Value.ref bs] below meth c H locs 29 27686 (lw_Z below #[Value.ref bs] s) (F0 m 395 ls []) := by
  obtain ⟨hx, hb, hr, hml, hown, hts0, hXs, hbl, hlocks, hgv⟩ := C0
  have hown : s.vm.findClass RL = some m.cls := hown
  have hts : ∀ w ∈ wsL_law, w.before #[Value.ref bs] s = true := fun w h => hts0 w (wsL_law_in w h)
  have hbA : ¬ (fun q : Nat => s.heap.size ≤ q) bs := Nat.not_le.mpr hbl
  have hAX : ∀ q, inX a q → s.heap.size ≤ q := fun q ⟨k, hk, e⟩ => e ▸ haL k hk
  have hAM : ∀ q, inM b q → s.heap.size ≤ q := fun q ⟨k, hk, e⟩ => e ▸ hbL k hk
  obtain ⟨hT, hW, hI, ⟨hR, hnr⟩, hMl, hMr, hRl, hRR⟩ := id hV
  refine lv_aload_n hx hb dL_law_395 rfl (lv_at hl 1 rfl) ?_
  refine lv_aload_n hx hb dL_law_396 rfl (lv_at hl 0 rfl) ?_
  refine lv_iload_n hx hb dL_law_397 rfl (lv_at hl 3 rfl) ?_
  refine lv_iconst (v := nI 1) hx hb dL_law_398 (by decide +kernel) ?_
  refine nz_iadd (a := i) (b := 1) hx hb dL_law_399 ?_
  refine nz_sld (k := i + 1) hx hb hXs hbl hbA hS (by omega) (by omega) dL_law_400 ?_
  refine lv_aload_n hx hb dL_law_401 rfl (lv_at hl 0 rfl) ?_
  refine lv_iload_n hx hb dL_law_402 rfl (lv_at hl 3 rfl) ?_
  refine lv_iconst (v := nI 2) hx hb dL_law_403 (by decide +kernel) ?_
  refine nz_iadd (a := i) (b := 2) hx hb dL_law_404 ?_
  refine nz_sld (k := i + 2) hx hb hXs hbl hbA hS (by omega) (by omega) dL_law_405 ?_
  refine nz_callR (va_runV (As := [.int (xs (i + 1)), .int (xs (i + 2))]) (rest := []) ⟨hx, hb, hml, hown, hts⟩ (mX5_of l D a cs tp wd lx ro rs (xs (i + 1)) (xs (i + 2)) hR hnr) (cwV 2 hts gL_law_X5_of rfl rfl rfl (by decide +kernel) ⟨Nat.le_of_ble_eq_true rfl, Nat.le_of_ble_eq_true rfl⟩) (nz_preV (ci := 5) (q0 := 0) hK hX rfl rfl) rfl rfl hl.1 rfl (lv_room (Nat.le_of_ble_eq_true rfl)) dL_law_406 ⟨Nat.le_of_ble_eq_true rfl, Nat.le_of_ble_eq_true rfl⟩) ?_
  refine lv_aload_n hx hb dL_law_409 rfl (lv_at hl 2 rfl) ?_
  refine lv_aload_n hx hb dL_law_410 rfl (lv_at hl 0 rfl) ?_
  refine lv_iload_n hx hb dL_law_411 rfl (lv_at hl 3 rfl) ?_
  refine lv_iconst (v := nI 1) hx hb dL_law_412 (by decide +kernel) ?_
  refine nz_iadd (a := i) (b := 1) hx hb dL_law_413 ?_
  refine nz_sld (k := i + 1) hx hb hXs hbl hbA hS (by omega) (by omega) dL_law_414 ?_
  refine lv_aload_n hx hb dL_law_415 rfl (lv_at hl 0 rfl) ?_
  refine lv_iload_n hx hb dL_law_416 rfl (lv_at hl 3 rfl) ?_
  refine lv_iconst (v := nI 2) hx hb dL_law_417 (by decide +kernel) ?_
  refine nz_iadd (a := i) (b := 2) hx hb dL_law_418 ?_
  refine nz_sld (k := i + 2) hx hb hXs hbl hbA hS (by omega) (by omega) dL_law_419 ?_
  refine nz_callR (va_runV (As := [.int (xs (i + 1)), .int (xs (i + 2))]) (rest := [_]) ⟨hx, hb, hml, hown, hts⟩ (mX6_of l D b cs tp ml mr mk (xs (i + 1)) (xs (i + 2)) hMr) (cwV 2 hts gL_law_X6_of rfl rfl rfl (by decide +kernel) ⟨Nat.le_of_ble_eq_true rfl, Nat.le_of_ble_eq_true rfl⟩) (nz_preV (ci := 6) (q0 := 0) hK hM rfl rfl) rfl rfl hl.1 rfl (lv_room (Nat.le_of_ble_eq_true rfl)) dL_law_420 ⟨Nat.le_of_ble_eq_true rfl, Nat.le_of_ble_eq_true rfl⟩) ?_
  refine W.lcmp hx hb dL_law_423 ?_
  exact lv_if_eq (tgt := 501) hx hb dL_law_424 (by decide) (fun _ => hk _ _ _ _ _ _ _ _ hV _ _ hX hM hS) (fun z => absurd ((congrArg (fun t => lg_cmp _ t) ((rrel_of hRR _ _)).symm).trans (lg_self _)) z)
set_option maxHeartbeats 8000000 in
set_option maxRecDepth 100000 in
theorem law_terms {p : Program} {l : Launch} {e : Env} {s : State} {m : MethodId} {below : List Frame} {meth : Method} {c : Code} {D : va_G} {a b : Nat → Nat} {cs : Nat → ClassId} {bs L : Nat} {xs : Nat → Int32} (C0 : lw_At p s m meth c bs L xs) (hL : L ≤ 1536) (hK : va_K D vwCl (tyX cs) s) (ha : wInj a) (hb2 : wInjM b) (haL : ∀ k, k < 17 → s.heap.size ≤ a k) (hbL : ∀ k, k < 12 → s.heap.size ≤ b k) (hab : ∀ i j, i < 17 → j < 12 → a i ≠ b j) {i : Nat} (hi : i + 3 ≤ L) (tp : TpT) (wd : (Nat → Nat) × Nat) (lx : LxT) (ro : Nat → Nat) (rs : RsT) (ml : MlT) (mr : MrT) (mk : (Nat → Bool) × (Nat → Nat) × (Nat → Nat)) (hV : LInv tp wd lx rs ml mr) {H : Heap} {locs : List Loc} (hX : va_P D vwCl (wX a cs tp wd lx ro rs) H) (hM : va_P D vwCl (wM b cs tp ml mr mk) H) (hS : va_S (fun q : Nat => s.heap.size ≤ q) s.heap H locs) {ls : Array Slot} (hl : lv_has ls 4 [(0, .ref bs), (1, .ref (a 0)), (2, .ref (b 0)), (3, .int (nI i))]) (hk : ∀ (tp : TpT) (wd : (Nat → Nat) × Nat) (lx : LxT) (ro : Nat → Nat) (rs : RsT) (ml : MlT) (mr : MrT) (mk : (Nat → Bool) × (Nat → Nat) × (Nat → Nat)), LInv tp wd lx rs ml mr → ∀ (H : Heap) (locs : List Loc), va_P D vwCl (wX a cs tp wd lx ro rs) H → va_P D vwCl (wM b cs tp ml mr mk) H → va_S (fun q : Nat => s.heap.size ≤ q) s.heap H locs → W p l e room_1 s m #[Value.ref bs] below meth c H locs 29 27686 (lw_Z below #[Value.ref bs] s) (F0 m 501 ls [])) : W p l e room_1 s m #[Value.ref bs] below meth c H locs 29 27686 (lw_Z below #[Value.ref bs] s) (F0 m 429 ls []) := by
  obtain ⟨hx, hb, hr, hml, hown, hts0, hXs, hbl, hlocks, hgv⟩ := C0
  have hown : s.vm.findClass RL = some m.cls := hown
  have hts : ∀ w ∈ wsL_law, w.before #[Value.ref bs] s = true := fun w h => hts0 w (wsL_law_in w h)
  have hbA : ¬ (fun q : Nat => s.heap.size ≤ q) bs := Nat.not_le.mpr hbl
  have hAX : ∀ q, inX a q → s.heap.size ≤ q := fun q ⟨k, hk, e⟩ => e ▸ haL k hk
  have hAM : ∀ q, inM b q → s.heap.size ≤ q := fun q ⟨k, hk, e⟩ => e ▸ hbL k hk
  obtain ⟨hT, hW, hI, ⟨hR, hnr⟩, hMl, hMr, hRl, hRR⟩ := id hV
  refine lv_aload_n hx hb dL_law_429 rfl (lv_at hl 1 rfl) ?_
  refine nz_callR (va_runV (As := []) (rest := []) ⟨hx, hb, hml, hown, hts⟩ (mX5_terms l D a cs tp wd lx ro rs) (cwV 0 hts gL_law_X5_terms rfl rfl rfl (by decide +kernel) ⟨Nat.le_of_ble_eq_true rfl, Nat.le_of_ble_eq_true rfl⟩) (nz_preV (ci := 5) (q0 := 0) hK hX rfl rfl) rfl rfl hl.1 rfl (lv_room (Nat.le_of_ble_eq_true rfl)) dL_law_430 ⟨Nat.le_of_ble_eq_true rfl, Nat.le_of_ble_eq_true rfl⟩) ?_
  refine lv_aload_n hx hb dL_law_433 rfl (lv_at hl 2 rfl) ?_
  refine nz_callR (va_runV (As := []) (rest := [_]) ⟨hx, hb, hml, hown, hts⟩ (mX6_terms l D b cs tp ml mr mk) (cwV 0 hts gL_law_X6_terms rfl rfl rfl (by decide +kernel) ⟨Nat.le_of_ble_eq_true rfl, Nat.le_of_ble_eq_true rfl⟩) (nz_preV (ci := 6) (q0 := 0) hK hM rfl rfl) rfl rfl hl.1 rfl (lv_room (Nat.le_of_ble_eq_true rfl)) dL_law_434 ⟨Nat.le_of_ble_eq_true rfl, Nat.le_of_ble_eq_true rfl⟩) ?_
  exact lv_icmp_eq (tgt := 501) hx hb dL_law_437 (by decide) (fun _ => hk _ _ _ _ _ _ _ _ hV _ _ hX hM hS) (fun z => absurd (by rw [hRl.1]) z)
set_option maxHeartbeats 8000000 in
set_option maxRecDepth 100000 in
theorem law_letters {p : Program} {l : Launch} {e : Env} {s : State} {m : MethodId} {below : List Frame} {meth : Method} {c : Code} {D : va_G} {a b : Nat → Nat} {cs : Nat → ClassId} {bs L : Nat} {xs : Nat → Int32} (C0 : lw_At p s m meth c bs L xs) (hL : L ≤ 1536) (hK : va_K D vwCl (tyX cs) s) (ha : wInj a) (hb2 : wInjM b) (haL : ∀ k, k < 17 → s.heap.size ≤ a k) (hbL : ∀ k, k < 12 → s.heap.size ≤ b k) (hab : ∀ i j, i < 17 → j < 12 → a i ≠ b j) {i : Nat} (hi : i + 3 ≤ L) (tp : TpT) (wd : (Nat → Nat) × Nat) (lx : LxT) (ro : Nat → Nat) (rs : RsT) (ml : MlT) (mr : MrT) (mk : (Nat → Bool) × (Nat → Nat) × (Nat → Nat)) (hV : LInv tp wd lx rs ml mr) {H : Heap} {locs : List Loc} (hX : va_P D vwCl (wX a cs tp wd lx ro rs) H) (hM : va_P D vwCl (wM b cs tp ml mr mk) H) (hS : va_S (fun q : Nat => s.heap.size ≤ q) s.heap H locs) {ls : Array Slot} (hl : lv_has ls 4 [(0, .ref bs), (1, .ref (a 0)), (2, .ref (b 0)), (3, .int (nI i))]) (hk : ∀ (tp : TpT) (wd : (Nat → Nat) × Nat) (lx : LxT) (ro : Nat → Nat) (rs : RsT) (ml : MlT) (mr : MrT) (mk : (Nat → Bool) × (Nat → Nat) × (Nat → Nat)), LInv tp wd lx rs ml mr → ∀ (H : Heap) (locs : List Loc), va_P D vwCl (wX a cs tp wd lx ro rs) H → va_P D vwCl (wM b cs tp ml mr mk) H → va_S (fun q : Nat => s.heap.size ≤ q) s.heap H locs → W p l e room_1 s m #[Value.ref bs] below meth c H locs 29 27686 (lw_Z below #[Value.ref bs] s) (F0 m 501 ls [])) : W p l e room_1 s m #[Value.ref bs] below meth c H locs 29 27686 (lw_Z below #[Value.ref bs] s) (F0 m 442 ls []) := by
  obtain ⟨hx, hb, hr, hml, hown, hts0, hXs, hbl, hlocks, hgv⟩ := C0
  have hown : s.vm.findClass RL = some m.cls := hown
  have hts : ∀ w ∈ wsL_law, w.before #[Value.ref bs] s = true := fun w h => hts0 w (wsL_law_in w h)
  have hbA : ¬ (fun q : Nat => s.heap.size ≤ q) bs := Nat.not_le.mpr hbl
  have hAX : ∀ q, inX a q → s.heap.size ≤ q := fun q ⟨k, hk, e⟩ => e ▸ haL k hk
  have hAM : ∀ q, inM b q → s.heap.size ≤ q := fun q ⟨k, hk, e⟩ => e ▸ hbL k hk
  obtain ⟨hT, hW, hI, ⟨hR, hnr⟩, hMl, hMr, hRl, hRR⟩ := id hV
  refine lv_aload_n hx hb dL_law_442 rfl (lv_at hl 1 rfl) ?_
  refine nz_callR (va_runV (As := []) (rest := []) ⟨hx, hb, hml, hown, hts⟩ (mX5_letters l D a cs tp wd lx ro rs hI.1) (cwV 0 hts gL_law_X5_letters rfl rfl rfl (by decide +kernel) ⟨Nat.le_of_ble_eq_true rfl, Nat.le_of_ble_eq_true rfl⟩) (nz_preV (ci := 5) (q0 := 0) hK hX rfl rfl) rfl rfl hl.1 rfl (lv_room (Nat.le_of_ble_eq_true rfl)) dL_law_443 ⟨Nat.le_of_ble_eq_true rfl, Nat.le_of_ble_eq_true rfl⟩) ?_
  refine lv_aload_n hx hb dL_law_446 rfl (lv_at hl 2 rfl) ?_
  refine nz_callR (va_runV (As := []) (rest := [_]) ⟨hx, hb, hml, hown, hts⟩ (mX6_letters l D b cs tp ml mr mk) (cwV 0 hts gL_law_X6_letters rfl rfl rfl (by decide +kernel) ⟨Nat.le_of_ble_eq_true rfl, Nat.le_of_ble_eq_true rfl⟩) (nz_preV (ci := 6) (q0 := 0) hK hM rfl rfl) rfl rfl hl.1 rfl (lv_room (Nat.le_of_ble_eq_true rfl)) dL_law_447 ⟨Nat.le_of_ble_eq_true rfl, Nat.le_of_ble_eq_true rfl⟩) ?_
  exact lv_icmp_eq (tgt := 501) hx hb dL_law_450 (by decide) (fun _ => hk _ _ _ _ _ _ _ _ hV _ _ hX hM hS) (fun z => absurd (by rw [hRl.2.2]) z)
set_option maxHeartbeats 8000000 in
set_option maxRecDepth 100000 in
theorem law_term {p : Program} {l : Launch} {e : Env} {s : State} {m : MethodId} {below : List Frame} {meth : Method} {c : Code} {D : va_G} {a b : Nat → Nat} {cs : Nat → ClassId} {bs L : Nat} {xs : Nat → Int32} (C0 : lw_At p s m meth c bs L xs) (hL : L ≤ 1536) (hK : va_K D vwCl (tyX cs) s) (ha : wInj a) (hb2 : wInjM b) (haL : ∀ k, k < 17 → s.heap.size ≤ a k) (hbL : ∀ k, k < 12 → s.heap.size ≤ b k) (hab : ∀ i j, i < 17 → j < 12 → a i ≠ b j) {i : Nat} (hi : i + 3 ≤ L) (tp : TpT) (wd : (Nat → Nat) × Nat) (lx : LxT) (ro : Nat → Nat) (rs : RsT) (ml : MlT) (mr : MrT) (mk : (Nat → Bool) × (Nat → Nat) × (Nat → Nat)) (hV : LInv tp wd lx rs ml mr) {H : Heap} {locs : List Loc} (hX : va_P D vwCl (wX a cs tp wd lx ro rs) H) (hM : va_P D vwCl (wM b cs tp ml mr mk) H) (hS : va_S (fun q : Nat => s.heap.size ≤ q) s.heap H locs) {ls : Array Slot} (hl : lv_has ls 4 [(0, .ref bs), (1, .ref (a 0)), (2, .ref (b 0)), (3, .int (nI i))]) (hk : ∀ (tp : TpT) (wd : (Nat → Nat) × Nat) (lx : LxT) (ro : Nat → Nat) (rs : RsT) (ml : MlT) (mr : MrT) (mk : (Nat → Bool) × (Nat → Nat) × (Nat → Nat)), LInv tp wd lx rs ml mr → ∀ (H : Heap) (locs : List Loc), va_P D vwCl (wX a cs tp wd lx ro rs) H → va_P D vwCl (wM b cs tp ml mr mk) H → va_S (fun q : Nat => s.heap.size ≤ q) s.heap H locs → W p l e room_1 s m #[Value.ref bs] below meth c H locs 29 27686 (lw_Z below #[Value.ref bs] s) (F0 m 501 ls [])) : W p l e room_1 s m #[Value.ref bs] below meth c H locs 29 27686 (lw_Z below #[Value.ref bs] s) (F0 m 455 ls []) := by
  obtain ⟨hx, hb, hr, hml, hown, hts0, hXs, hbl, hlocks, hgv⟩ := C0
  have hown : s.vm.findClass RL = some m.cls := hown
  have hts : ∀ w ∈ wsL_law, w.before #[Value.ref bs] s = true := fun w h => hts0 w (wsL_law_in w h)
  have hbA : ¬ (fun q : Nat => s.heap.size ≤ q) bs := Nat.not_le.mpr hbl
  have hAX : ∀ q, inX a q → s.heap.size ≤ q := fun q ⟨k, hk, e⟩ => e ▸ haL k hk
  have hAM : ∀ q, inM b q → s.heap.size ≤ q := fun q ⟨k, hk, e⟩ => e ▸ hbL k hk
  obtain ⟨hT, hW, hI, ⟨hR, hnr⟩, hMl, hMr, hRl, hRR⟩ := id hV
  refine lv_aload_n hx hb dL_law_455 rfl (lv_at hl 1 rfl) ?_
  refine lv_aload_n hx hb dL_law_456 rfl (lv_at hl 0 rfl) ?_
  refine lv_iload_n hx hb dL_law_457 rfl (lv_at hl 3 rfl) ?_
  refine lv_iconst (v := nI 1) hx hb dL_law_458 (by decide +kernel) ?_
  refine nz_iadd (a := i) (b := 1) hx hb dL_law_459 ?_
  refine nz_sld (k := i + 1) hx hb hXs hbl hbA hS (by omega) (by omega) dL_law_460 ?_
  refine lv_aload_n hx hb dL_law_461 rfl (lv_at hl 0 rfl) ?_
  refine lv_iload_n hx hb dL_law_462 rfl (lv_at hl 3 rfl) ?_
  refine lv_iconst (v := nI 2) hx hb dL_law_463 (by decide +kernel) ?_
  refine nz_iadd (a := i) (b := 2) hx hb dL_law_464 ?_
  refine nz_sld (k := i + 2) hx hb hXs hbl hbA hS (by omega) (by omega) dL_law_465 ?_
  refine nz_callR (va_runV (As := [.int (xs (i + 1)), .int (xs (i + 2))]) (rest := []) ⟨hx, hb, hml, hown, hts⟩ (mX5_term l D a cs tp wd lx ro rs (xs (i + 1)) (xs (i + 2)) hI.1) (cwV 2 hts gL_law_X5_term rfl rfl rfl (by decide +kernel) ⟨Nat.le_of_ble_eq_true rfl, Nat.le_of_ble_eq_true rfl⟩) (nz_preV (ci := 5) (q0 := 0) hK hX rfl rfl) rfl rfl hl.1 rfl (lv_room (Nat.le_of_ble_eq_true rfl)) dL_law_466 ⟨Nat.le_of_ble_eq_true rfl, Nat.le_of_ble_eq_true rfl⟩) ?_
  refine lv_aload_n hx hb dL_law_469 rfl (lv_at hl 2 rfl) ?_
  refine lv_aload_n hx hb dL_law_470 rfl (lv_at hl 0 rfl) ?_
  refine lv_iload_n hx hb dL_law_471 rfl (lv_at hl 3 rfl) ?_
  refine lv_iconst (v := nI 1) hx hb dL_law_472 (by decide +kernel) ?_
  refine nz_iadd (a := i) (b := 1) hx hb dL_law_473 ?_
  refine nz_sld (k := i + 1) hx hb hXs hbl hbA hS (by omega) (by omega) dL_law_474 ?_
  refine lv_aload_n hx hb dL_law_475 rfl (lv_at hl 0 rfl) ?_
  refine lv_iload_n hx hb dL_law_476 rfl (lv_at hl 3 rfl) ?_
  refine lv_iconst (v := nI 2) hx hb dL_law_477 (by decide +kernel) ?_
  refine nz_iadd (a := i) (b := 2) hx hb dL_law_478 ?_
  refine nz_sld (k := i + 2) hx hb hXs hbl hbA hS (by omega) (by omega) dL_law_479 ?_
  refine nz_callR (va_runV (As := [.int (xs (i + 1)), .int (xs (i + 2))]) (rest := [_]) ⟨hx, hb, hml, hown, hts⟩ (mX6_term l D b cs tp ml mr mk (xs (i + 1)) (xs (i + 2)) hMl) (cwV 2 hts gL_law_X6_term rfl rfl rfl (by decide +kernel) ⟨Nat.le_of_ble_eq_true rfl, Nat.le_of_ble_eq_true rfl⟩) (nz_preV (ci := 6) (q0 := 0) hK hM rfl rfl) rfl rfl hl.1 rfl (lv_room (Nat.le_of_ble_eq_true rfl)) dL_law_480 ⟨Nat.le_of_ble_eq_true rfl, Nat.le_of_ble_eq_true rfl⟩) ?_
  exact lv_icmp_eq (tgt := 501) hx hb dL_law_483 (by decide) (fun _ => hk _ _ _ _ _ _ _ _ hV _ _ hX hM hS) (fun z => absurd (rel_term hRl _ _) z)
set_option maxHeartbeats 8000000 in
set_option maxRecDepth 100000 in
theorem law_prefixes {p : Program} {l : Launch} {e : Env} {s : State} {m : MethodId} {below : List Frame} {meth : Method} {c : Code} {D : va_G} {a b : Nat → Nat} {cs : Nat → ClassId} {bs L : Nat} {xs : Nat → Int32} (C0 : lw_At p s m meth c bs L xs) (hL : L ≤ 1536) (hK : va_K D vwCl (tyX cs) s) (ha : wInj a) (hb2 : wInjM b) (haL : ∀ k, k < 17 → s.heap.size ≤ a k) (hbL : ∀ k, k < 12 → s.heap.size ≤ b k) (hab : ∀ i j, i < 17 → j < 12 → a i ≠ b j) {i : Nat} (hi : i + 3 ≤ L) (tp : TpT) (wd : (Nat → Nat) × Nat) (lx : LxT) (ro : Nat → Nat) (rs : RsT) (ml : MlT) (mr : MrT) (mk : (Nat → Bool) × (Nat → Nat) × (Nat → Nat)) (hV : LInv tp wd lx rs ml mr) {H : Heap} {locs : List Loc} (hX : va_P D vwCl (wX a cs tp wd lx ro rs) H) (hM : va_P D vwCl (wM b cs tp ml mr mk) H) (hS : va_S (fun q : Nat => s.heap.size ≤ q) s.heap H locs) {ls : Array Slot} (hl : lv_has ls 4 [(0, .ref bs), (1, .ref (a 0)), (2, .ref (b 0)), (3, .int (nI i))]) (hk : ∀ (tp : TpT) (wd : (Nat → Nat) × Nat) (lx : LxT) (ro : Nat → Nat) (rs : RsT) (ml : MlT) (mr : MrT) (mk : (Nat → Bool) × (Nat → Nat) × (Nat → Nat)), LInv tp wd lx rs ml mr → ∀ (H : Heap) (locs : List Loc), va_P D vwCl (wX a cs tp wd lx ro rs) H → va_P D vwCl (wM b cs tp ml mr mk) H → va_S (fun q : Nat => s.heap.size ≤ q) s.heap H locs → W p l e room_1 s m #[Value.ref bs] below meth c H locs 29 27686 (lw_Z below #[Value.ref bs] s) (F0 m 501 ls [])) : W p l e room_1 s m #[Value.ref bs] below meth c H locs 29 27686 (lw_Z below #[Value.ref bs] s) (F0 m 488 ls []) := by
  obtain ⟨hx, hb, hr, hml, hown, hts0, hXs, hbl, hlocks, hgv⟩ := C0
  have hown : s.vm.findClass RL = some m.cls := hown
  have hts : ∀ w ∈ wsL_law, w.before #[Value.ref bs] s = true := fun w h => hts0 w (wsL_law_in w h)
  have hbA : ¬ (fun q : Nat => s.heap.size ≤ q) bs := Nat.not_le.mpr hbl
  have hAX : ∀ q, inX a q → s.heap.size ≤ q := fun q ⟨k, hk, e⟩ => e ▸ haL k hk
  have hAM : ∀ q, inM b q → s.heap.size ≤ q := fun q ⟨k, hk, e⟩ => e ▸ hbL k hk
  obtain ⟨hT, hW, hI, ⟨hR, hnr⟩, hMl, hMr, hRl, hRR⟩ := id hV
  obtain ⟨sh, hsh⟩ := sh_ex lx
  refine lv_aload_n hx hb dL_law_488 rfl (lv_at hl 1 rfl) ?_
  refine nz_callR (va_runV (As := []) (rest := []) ⟨hx, hb, hml, hown, hts⟩ (mX5_prefixes l D a cs tp wd lx ro rs sh hI.1 (fun i _ => hsh i)) (cwV 0 hts gL_law_X5_prefixes rfl rfl rfl (by decide +kernel) ⟨Nat.le_of_ble_eq_true rfl, Nat.le_of_ble_eq_true rfl⟩) (nz_preV (ci := 5) (q0 := 0) hK hX rfl rfl) rfl rfl hl.1 rfl (lv_room (Nat.le_of_ble_eq_true rfl)) dL_law_489 ⟨Nat.le_of_ble_eq_true rfl, Nat.le_of_ble_eq_true rfl⟩) ?_
  refine lv_aload_n hx hb dL_law_492 rfl (lv_at hl 2 rfl) ?_
  refine nz_callR (va_runV (As := []) (rest := [_]) ⟨hx, hb, hml, hown, hts⟩ (mX6_prefixes l D b cs tp ml mr mk sh hMl (rel_sh hRl hsh)) (cwV 0 hts gL_law_X6_prefixes rfl rfl rfl (by decide +kernel) ⟨Nat.le_of_ble_eq_true rfl, Nat.le_of_ble_eq_true rfl⟩) (nz_preV (ci := 6) (q0 := 0) hK hM rfl rfl) rfl rfl hl.1 rfl (lv_room (Nat.le_of_ble_eq_true rfl)) dL_law_493 ⟨Nat.le_of_ble_eq_true rfl, Nat.le_of_ble_eq_true rfl⟩) ?_
  exact lv_icmp_eq (tgt := 501) hx hb dL_law_496 (by decide) (fun _ => hk _ _ _ _ _ _ _ _ hV _ _ hX hM hS) (fun z => absurd (congrArg nI (rel_pre hI hRl hsh)) z)
