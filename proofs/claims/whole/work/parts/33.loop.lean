theorem inlX6 : ∀ w ∈ wsX60, w ∈ wsL_law := fun _ h => List.mem_append_left _ (List.mem_append_left _ (List.mem_append_left _ (List.mem_append_left _ (List.mem_append_left _ (List.mem_append_left _ (List.mem_append_right _ h))))))
theorem inlX5 : ∀ w ∈ wsX50, w ∈ wsL_law := fun _ h => List.mem_append_left _ (List.mem_append_left _ (List.mem_append_left _ (List.mem_append_left _ (List.mem_append_left _ (List.mem_append_left _ (List.mem_append_left _ (List.mem_append_right _ h)))))))
set_option maxHeartbeats 8000000 in
set_option maxRecDepth 100000 in
/-- THE LAW'S LOOP: at its head class and reference hold the same -/
theorem law_loop {p : Program} {l : Launch} {e : Env} {s : State} {m : MethodId} {below : List Frame} {meth : Method} {c : Code} {D : va_G} {a b : Nat → Nat} {cs : Nat → ClassId} {bs L : Nat} {xs : Nat → Int32} (C0 : lw_At p s m meth c bs L xs) (hL : L ≤ 1536) (hK : va_K D vwCl (tyX cs) s) (ha : wInj a) (hb2 : wInjM b) (haL : ∀ k, k < 17 → s.heap.size ≤ a k) (hbL : ∀ k, k < 12 → s.heap.size ≤ b k) (hab : ∀ i j, i < 17 → j < 12 → a i ≠ b j) : ∀ (n i : Nat), L + 4 ≤ i + n → i ≤ L + 3 → ∀ (tp : TpT) (wd : (Nat → Nat) × Nat) (lx : LxT) (ro : Nat → Nat) (rs : RsT) (ml : MlT) (mr : MrT) (mk : (Nat → Bool) × (Nat → Nat) × (Nat → Nat)), LInv tp wd lx rs ml mr → ∀ (H : Heap) (locs : List Loc), va_P D vwCl (wX a cs tp wd lx ro rs) H → va_P D vwCl (wM b cs tp ml mr mk) H → va_S (fun q : Nat => s.heap.size ≤ q) s.heap H locs → ∀ ls : Array Slot, lv_has ls 4 [(0, .ref bs), (1, .ref (a 0)), (2, .ref (b 0)), (3, .int (nI i))] → W p l e room_1 s m #[Value.ref bs] below meth c H locs 29 27686 (lw_Z below #[Value.ref bs] s) (F0 m 18 ls []) := by
  have hC := C0
  obtain ⟨hx, hb, hr, hml, hown, hts0, hXs, hbl, hlocks, hgv⟩ := C0
  have hown : s.vm.findClass RL = some m.cls := hown
  have hts : ∀ w ∈ wsL_law, w.before #[Value.ref bs] s = true := fun w h => hts0 w (wsL_law_in w h)
  have hbA : ¬ (fun q : Nat => s.heap.size ≤ q) bs := Nat.not_le.mpr hbl
  have hAX : ∀ q, inX a q → s.heap.size ≤ q := fun q ⟨k, hk, e⟩ => e ▸ haL k hk
  have hAM : ∀ q, inM b q → s.heap.size ≤ q := fun q ⟨k, hk, e⟩ => e ▸ hbL k hk
  intro n
  induction n with
  | zero =>
    intro i h1 h2
    exact absurd h1 (by omega)
  | succ n ih =>
    intro i hin hi0 tp wd lx ro rs ml mr mk hV H locs hX hM hS ls hl
    refine lv_iload_n hx hb dL_law_18 rfl (lv_at hl 3 rfl) ?_
    refine lv_aload_n hx hb dL_law_19 rfl (lv_at hl 0 rfl) ?_
    refine va_slen hx hb hXs hbl hbA hS dL_law_20 ?_
    refine lv_iconst (v := nI 3) hx hb dL_law_21 (by decide +kernel) ?_
    refine lv_isub hx hb dL_law_22 ?_
    have hti : (Int32.ofNat L - nI 3).toInt = (L : Int) - 3 := pk_sub_toInt (a := L) (b := 3) (by omega) (by decide)
    have htj : (nI i).toInt = (i : Int) := nI_toInt (by omega)
    refine lv_icmp_gt (tgt := 507) hx hb dL_law_23 (by decide) (fun c_23 => ?_) (fun c_23 => ?_)
    · refine lv_iconst (v := 1) hx hb dL_law_507 (by decide +kernel) ?_
      refine va_forget (fun q hq => hS.2.2 q hq) ?_
      exact lw_ret hx hb hr hlocks dL_law_508
    · have hi : i + 3 ≤ L := by
        rw [Int32.lt_iff_toInt_lt, hti, htj] at c_23
        omega
      refine lv_aload_n hx hb dL_law_26 rfl (lv_at hl 0 rfl) ?_
      refine lv_iload_n hx hb dL_law_27 rfl (lv_at hl 3 rfl) ?_
      refine nz_sld (k := i) hx hb hXs hbl hbA hS (by omega) (by omega) dL_law_28 ?_
      refine lv_bipush (v := 31) hx hb dL_law_29 (by decide +kernel) ?_
      refine lv_iand hx hb dL_law_31 ?_
      obtain ⟨j, hj, ej⟩ := pk_andE (xs i) (m := 31) 5 (by decide +kernel)
      refine nz_top ej ?_
      have hk : ∀ (tp : TpT) (wd : (Nat → Nat) × Nat) (lx : LxT) (ro : Nat → Nat) (rs : RsT) (ml : MlT) (mr : MrT) (mk : (Nat → Bool) × (Nat → Nat) × (Nat → Nat)), LInv tp wd lx rs ml mr → ∀ (H : Heap) (locs : List Loc), va_P D vwCl (wX a cs tp wd lx ro rs) H → va_P D vwCl (wM b cs tp ml mr mk) H → va_S (fun q : Nat => s.heap.size ≤ q) s.heap H locs → W p l e room_1 s m #[Value.ref bs] below meth c H locs 29 27686 (lw_Z below #[Value.ref bs] s) (F0 m 501 ls []) := by
        intro tp wd lx ro rs ml mr mk hV H locs hX hM hS
        refine lv_iinc (v := nI (i + 3)) (lv' := [(3, .int (nI (i + 3))), (0, .ref bs), (1, .ref (a 0)), (2, .ref (b 0))]) hx hb dL_law_501 hl (k := 3) rfl (nz_inc3 _) (by decide) rfl (fun ls hl => ?_)
        refine lv_goto (tgt := 18) hx hb dL_law_504 (by decide) ?_
        exact ih (i + 3) (by omega) (by omega) tp wd lx ro rs ml mr mk hV H locs hX hM hS ls (lv_sub hl [1, 2, 3, 0] rfl)
      rcases Nat.lt_or_ge j 17 with hj17 | hj17
      · rcases (show j = 0 ∨ j = 1 ∨ j = 2 ∨ j = 3 ∨ j = 4 ∨ j = 5 ∨ j = 6 ∨ j = 7 ∨ j = 8 ∨ j = 9 ∨ j = 10 ∨ j = 11 ∨ j = 12 ∨ j = 13 ∨ j = 14 ∨ j = 15 ∨ j = 16 by omega) with rfl | rfl | rfl | rfl | rfl | rfl | rfl | rfl | rfl | rfl | rfl | rfl | rfl | rfl | rfl | rfl | rfl
        · refine lv_tableIn (off := 84) (tgt := 116) hx hb dL_law_32 (by decide +kernel) (by decide +kernel) (by decide +kernel) (by decide) ?_
          exact law_feed hC hL hK ha hb2 haL hbL hab hi tp wd lx ro rs ml mr mk hV hX hM hS hl hk
        · refine lv_tableIn (off := 107) (tgt := 139) hx hb dL_law_32 (by decide +kernel) (by decide +kernel) (by decide +kernel) (by decide) ?_
          exact law_cut hC hL hK ha hb2 haL hbL hab hi tp wd lx ro rs ml mr mk hV hX hM hS hl hk
        · refine lv_tableIn (off := 130) (tgt := 162) hx hb dL_law_32 (by decide +kernel) (by decide +kernel) (by decide +kernel) (by decide) ?_
          exact law_learn hC hL hK ha hb2 haL hbL hab hi tp wd lx ro rs ml mr mk hV hX hM hS hl hk
        · refine lv_tableIn (off := 153) (tgt := 185) hx hb dL_law_32 (by decide +kernel) (by decide +kernel) (by decide +kernel) (by decide) ?_
          exact law_set hC hL hK ha hb2 haL hbL hab hi tp wd lx ro rs ml mr mk hV hX hM hS hl hk
        · refine lv_tableIn (off := 206) (tgt := 238) hx hb dL_law_32 (by decide +kernel) (by decide +kernel) (by decide +kernel) (by decide) ?_
          exact law_drop hC hL hK ha hb2 haL hbL hab hi tp wd lx ro rs ml mr mk hV hX hM hS hl hk
        · refine lv_tableIn (off := 220) (tgt := 252) hx hb dL_law_32 (by decide +kernel) (by decide +kernel) (by decide +kernel) (by decide) ?_
          exact law_weight hC hL hK ha hb2 haL hbL hab hi tp wd lx ro rs ml mr mk hV hX hM hS hl hk
        · refine lv_tableIn (off := 234) (tgt := 266) hx hb dL_law_32 (by decide +kernel) (by decide +kernel) (by decide +kernel) (by decide) ?_
          exact law_ask hC hL hK ha hb2 haL hbL hab hi tp wd lx ro rs ml mr mk hV hX hM hS hl hk
        · refine lv_tableIn (off := 267) (tgt := 299) hx hb dL_law_32 (by decide +kernel) (by decide +kernel) (by decide +kernel) (by decide) ?_
          exact law_near hC hL hK ha hb2 haL hbL hab hi tp wd lx ro rs ml mr mk hV hX hM hS hl hk
        · refine lv_tableIn (off := 290) (tgt := 322) hx hb dL_law_32 (by decide +kernel) (by decide +kernel) (by decide +kernel) (by decide) ?_
          exact law_best hC hL hK ha hb2 haL hbL hab hi tp wd lx ro rs ml mr mk hV hX hM hS hl hk
        · refine lv_tableIn (off := 304) (tgt := 336) hx hb dL_law_32 (by decide +kernel) (by decide +kernel) (by decide +kernel) (by decide) ?_
          exact law_rank hC hL hK ha hb2 haL hbL hab hi tp wd lx ro rs ml mr mk hV hX hM hS hl hk
        · refine lv_tableIn (off := 317) (tgt := 349) hx hb dL_law_32 (by decide +kernel) (by decide +kernel) (by decide +kernel) (by decide) ?_
          exact law_found hC hL hK ha hb2 haL hbL hab hi tp wd lx ro rs ml mr mk hV hX hM hS hl hk
        · refine lv_tableIn (off := 330) (tgt := 362) hx hb dL_law_32 (by decide +kernel) (by decide +kernel) (by decide +kernel) (by decide) ?_
          exact law_letter hC hL hK ha hb2 haL hbL hab hi tp wd lx ro rs ml mr mk hV hX hM hS hl hk
        · refine lv_tableIn (off := 363) (tgt := 395) hx hb dL_law_32 (by decide +kernel) (by decide +kernel) (by decide +kernel) (by decide) ?_
          exact law_of hC hL hK ha hb2 haL hbL hab hi tp wd lx ro rs ml mr mk hV hX hM hS hl hk
        · refine lv_tableIn (off := 397) (tgt := 429) hx hb dL_law_32 (by decide +kernel) (by decide +kernel) (by decide +kernel) (by decide) ?_
          exact law_terms hC hL hK ha hb2 haL hbL hab hi tp wd lx ro rs ml mr mk hV hX hM hS hl hk
        · refine lv_tableIn (off := 410) (tgt := 442) hx hb dL_law_32 (by decide +kernel) (by decide +kernel) (by decide +kernel) (by decide) ?_
          exact law_letters hC hL hK ha hb2 haL hbL hab hi tp wd lx ro rs ml mr mk hV hX hM hS hl hk
        · refine lv_tableIn (off := 423) (tgt := 455) hx hb dL_law_32 (by decide +kernel) (by decide +kernel) (by decide +kernel) (by decide) ?_
          exact law_term hC hL hK ha hb2 haL hbL hab hi tp wd lx ro rs ml mr mk hV hX hM hS hl hk
        · refine lv_tableIn (off := 456) (tgt := 488) hx hb dL_law_32 (by decide +kernel) (by decide +kernel) (by decide +kernel) (by decide) ?_
          exact law_prefixes hC hL hK ha hb2 haL hbL hab hi tp wd lx ro rs ml mr mk hV hX hM hS hl hk
      · refine lv_tableOut (tgt := 501) hx hb dL_law_32 (Or.inr (by rw [nI_toInt (by omega)]; omega)) (by decide) ?_
        exact hk tp wd lx ro rs ml mr mk hV H locs hX hM hS
theorem linv_0 : LInv (fun _ => 0, 0) (fun _ => 0, 0) (fun _ => 0, fun _ => 0, fun _ => 0, 0) (fun _ => 0, fun _ => 0, fun _ => 0, fun _ => 0, fun _ => 0, 0) (fun _ => 0, fun _ => 0, fun _ => 0, 0, 0) (fun _ => 0, fun _ => 0, fun _ => 0, fun _ => 0, 0) := by
  have z : ∀ i : Nat, ¬ i < 0 := Nat.not_lt_zero
  refine ⟨Nat.zero_le _, ⟨Nat.zero_le _, fun _ => (by show 0 < 128; decide)⟩, ⟨⟨Nat.zero_le _, fun i h => absurd h (z i), fun _ => Nat.zero_le _, fun _ => (by show 0 < 128; decide), fun _ => Nat.zero_le _⟩, rfl, fun i h => absurd h (z i), fun i h => absurd h (Nat.not_lt_zero _)⟩, ⟨⟨Nat.zero_le _, fun _ => Nat.zero_le _, fun _ => Nat.zero_le _⟩, fun _ => Nat.zero_le _⟩, ⟨Nat.zero_le _, fun _ => Nat.zero_le _, fun _ => (by show 0 < 128; decide), fun _ => Nat.zero_le _, Nat.zero_le _⟩, ⟨Nat.zero_le _, fun _ => Nat.zero_le _, fun _ => Nat.zero_le _, fun _ => Nat.zero_le _⟩, ⟨rfl, fun i h => absurd h (z i), rfl⟩, ⟨rfl, fun i h => absurd h (z i)⟩⟩
theorem arr_K {s : State} {A : Array Value} {ty : FieldType} (h : (Cond.arrayClass ty).before A s = true) (hp : ∀ C, ty ≠ .object C) : ∃ cA : ClassId, ArrOfT s cA ty ∧ va_RA s cA ty := by
  obtain ⟨cA, kA, comp, h1, h2, h3⟩ := Cond.arrayClass_spec h
  refine ⟨cA, fun n z => ⟨fun k h => (by cases h), kA, h2, comp, h3⟩, ?_⟩
  cases ty <;> first | exact h1 | exact absurd rfl (hp _)
theorem ct_blind5 {D : va_G} {cl : List vw_C} {ws : va_W} {tys : List (ClassId × FieldType)} {av : List Value} {sz : Nat} : FrameBlind (va_Pc av (fun U => U.heap.size = sz ∧ va_P D cl ws U.heap ∧ va_K D cl tys U ∧ va_Nw (.methodLinkNest RX5 9 yX3_init "TypoSuggester") U ∧ va_Nw (.methodLinkNest RX5 18 yX4_init "TypoSuggester") U ∧ va_Nw (.methodLinkNest RX5 25 yX0_init "TypoSuggester") U ∧ va_Nw (.methodLinkNest RX5 32 yX1_init "TypoSuggester") U ∧ va_Nw (.methodLinkNest RX5 39 yX2_init "TypoSuggester") U)) :=
  fun a U g mk q => by
    obtain ⟨q0, q9, q1, q2, q3⟩ := q
    exact ⟨q0, q9, q1, va_K.moved (u := U) (U := U.calling g mk a) (Vm.Alike.refl U.vm) q2, q3⟩
set_option maxHeartbeats 8000000 in
set_option maxRecDepth 100000 in
/-- THE LAW, from its entry -/
theorem whole_start {p : Program} {e : Env} {s : State} {m : MethodId} {below : List Frame} {meth : Method} {c : Code} (l : Launch) {b L : Nat} {xs : Nat → Int32} (hL : L ≤ 1536) (C0 : lw_At p s m meth c b L xs) : W p l e room_1 s m #[Value.ref b] below meth c s.heap [] 0 0 (lw_Z below #[Value.ref b] s) (entryFrame m ([Value.ref b] : List Value).toArray 4) := by
  have hC := C0
  obtain ⟨hx, hb, hr, hml, hown, hts0, hXs, hbl, hlocks, hgv⟩ := C0
  have hown : s.vm.findClass RL = some m.cls := hown
  have hts : ∀ w ∈ wsL_law, w.before #[Value.ref b] s = true := fun w h => hts0 w (wsL_law_in w h)
  have hA : ∀ q : Nat, s.heap.size ≤ q → (fun q : Nat => s.heap.size ≤ q) q := fun _ h => h
  obtain ⟨c0, iS0, hKn0⟩ := u_known (C := RX0) (T := TX0) (N := 4) (n := 4) hts0 (fun w h => wsX00_tb w h) (hts (.instantiable RX0 4) (by decide +kernel))
  obtain ⟨c1, iS1, hKn1⟩ := u_known (C := RX1) (T := TX1) (N := 1) (n := 1) hts0 (fun w h => wsX10_tb w h) (hts (.instantiable RX1 1) (by decide +kernel))
  obtain ⟨c2, iS2, hKn2⟩ := u_known (C := RX2) (T := TX2) (N := 6) (n := 6) hts0 (fun w h => wsX20_tb w h) (hts (.instantiable RX2 6) (by decide +kernel))
  obtain ⟨c3, iS3, hKn3⟩ := u_known (C := RX3) (T := TX3) (N := 2) (n := 2) hts0 (fun w h => wsX30_tb w h) (hts (.instantiable RX3 2) (by decide +kernel))
  obtain ⟨c4, iS4, hKn4⟩ := u_known (C := RX4) (T := TX4) (N := 2) (n := 2) hts0 (fun w h => wsX40_tb w h) (hts (.instantiable RX4 2) (by decide +kernel))
  obtain ⟨c5, iS5, hKn5⟩ := u_known (C := RX5) (T := TX5) (N := 5) (n := 5) hts0 (fun w h => wsX50_tb w h) (hts (.instantiable RX5 5) (by decide +kernel))
  obtain ⟨c6, iS6, hKn6⟩ := u_known (C := RX6) (T := TX6) (N := 15) (n := 15) hts0 (fun w h => wsX60_tb w h) (hts (.instantiable RX6 15) (by decide +kernel))
  obtain ⟨dC, dI, hKc⟩ : ∃ (dC : Nat → ClassId) (dI : Nat → Nat → Nat), ∀ (k : Nat) (q : vw_C), vwCl[k]? = some q → u_Kn s q.1 q.2.1 q.2.2 (dC k) (dI k) := by
    refine ⟨fun k => match k with | 0 => c0 | 1 => c1 | 2 => c2 | 3 => c3 | 4 => c4 | 5 => c5 | _ => c6, fun k => match k with | 0 => iS0 | 1 => iS1 | 2 => iS2 | 3 => iS3 | 4 => iS4 | 5 => iS5 | _ => iS6, ?_⟩
    intro k q hq
    match k, hq with
    | 0, hq => cases hq; exact hKn0
    | 1, hq => cases hq; exact hKn1
    | 2, hq => cases hq; exact hKn2
    | 3, hq => cases hq; exact hKn3
    | 4, hq => cases hq; exact hKn4
    | 5, hq => cases hq; exact hKn5
    | 6, hq => cases hq; exact hKn6
    | k + 7, hq => simp [vwCl] at hq
  obtain ⟨gB, hgB⟩ := arr_K (hts (.arrayClass .byte) (by decide +kernel)) (fun _ h => by cases h)
  obtain ⟨gI, hgI⟩ := arr_K (hts (.arrayClass .int) (by decide +kernel)) (fun _ h => by cases h)
  obtain ⟨gJ, hgJ⟩ := arr_K (hts (.arrayClass .long) (by decide +kernel)) (fun _ h => by cases h)
  obtain ⟨gZ, hgZ⟩ := arr_K (hts (.arrayClass .boolean) (by decide +kernel)) (fun _ h => by cases h)
  obtain ⟨cs, hcs⟩ : ∃ cs : Nat → ClassId, cs = fun k => match k with | 0 => gB | 1 => gI | 2 => gJ | _ => gZ := ⟨_, rfl⟩
  have hK : va_K (dC, dI) vwCl (tyX cs) s := by
    refine ⟨hKc, fun k q hq => ?_⟩
    subst hcs
    match k, hq with
    | 0, hq => cases hq; exact hgB
    | 1, hq => cases hq; exact hgI
    | 2, hq => cases hq; exact hgJ
    | 3, hq => cases hq; exact hgZ
    | k + 4, hq => simp [tyX] at hq
  have hS : va_S (fun q : Nat => s.heap.size ≤ q) s.heap s.heap [] := va_S.rf
  have hP : va_P (dC, dI) vwCl [] s.heap := fun k q h => by simp at h
  have hD : va_D (fun q : Nat => s.heap.size ≤ q) [] := ⟨fun i j p q h => by simp at h, fun k q h => by simp at h⟩
  have hl := lv_entry ([.ref b]) (n := 4) (Nat.le_of_ble_eq_true rfl)
  rw [lg_entry_eq]
  generalize (lg_sl ([.ref b]) ++ List.replicate (4 - (lg_sl ([.ref b])).length) Slot.unset).toArray = ls at hl ⊢
  have hl : lv_has ls 4 [(0, .ref b)] := hl
  refine va_new (ci := 5) (fs := [.null, .null, .null, .null, .null]) (C := RX5) (T := TX5) (N := 5) hx hb hts inlX5 tyX5 tyX5_ok hown (hts (.classLink RL 7 RX5) (by decide +kernel)) (hts (.instantiable RX5 5) (by decide +kernel)) (hts (.initialized RX5) (by decide +kernel)) hK hP hD hS hA rfl (fun j hj => by rcases (show j = 0 ∨ j = 1 ∨ j = 2 ∨ j = 3 ∨ j = 4 by omega) with rfl | rfl | rfl | rfl | rfl <;> rfl) (Nat.le_of_ble_eq_true rfl) (Nat.le_of_ble_eq_true rfl) dL_law_0 (fun o5 H hP hD hS => ?_)
  have hP : va_P (dC, dI) vwCl ([(o5, .inr (5, [.null, .null, .null, .null, .null]))]) H := hP
  have hD : va_D (fun q : Nat => s.heap.size ≤ q) ([(o5, .inr (5, [.null, .null, .null, .null, .null]))]) := hD
  refine W.widen (k := 1) (n := 5) (by omega) (by omega) ?_
  refine lv_dup hx hb dL_law_3 rfl ?_
  have hFc := va_free (wc := [(o5, .inr (5, [.null, .null, .null, .null, .null]))]) hD hS hA [0] rfl
  have hwX3 : va_Nw (.methodLinkNest RX5 9 yX3_init "TypoSuggester") s := va_Nw.of rfl (hts0 (.methodLinkNest RX5 9 yX3_init "TypoSuggester") (by decide +kernel))
  have hwX4 : va_Nw (.methodLinkNest RX5 18 yX4_init "TypoSuggester") s := va_Nw.of rfl (hts0 (.methodLinkNest RX5 18 yX4_init "TypoSuggester") (by decide +kernel))
  have hwX0 : va_Nw (.methodLinkNest RX5 25 yX0_init "TypoSuggester") s := va_Nw.of rfl (hts0 (.methodLinkNest RX5 25 yX0_init "TypoSuggester") (by decide +kernel))
  have hwX1 : va_Nw (.methodLinkNest RX5 32 yX1_init "TypoSuggester") s := va_Nw.of rfl (hts0 (.methodLinkNest RX5 32 yX1_init "TypoSuggester") (by decide +kernel))
  have hwX2 : va_Nw (.methodLinkNest RX5 39 yX2_init "TypoSuggester") s := va_Nw.of rfl (hts0 (.methodLinkNest RX5 39 yX2_init "TypoSuggester") (by decide +kernel))
  refine nz_callC (va_runI (As := []) (rest := [.ref o5]) ⟨hx, hb, hml, hown, hts⟩ (mX5_init l (dC, dI) cs o5 H.size) (cwI 0 hts gL_law_X5_init rfl rfl rfl (hts (.initialized RX5) (by decide +kernel)) (hts (.methodLink RL 9 yX5_init) (by decide +kernel)) (hts (.instanceMethod yX5_init) (by decide +kernel)) rfl (by decide +kernel) ⟨Nat.le_of_ble_eq_true rfl, Nat.le_of_ble_eq_true rfl⟩) ⟨ct_blind5, fun U hU hW => ⟨rfl, by rw [hU], by rw [hU]; exact hP, va_K.moved hW.alike hK, va_Nw.warmM hW hwX3, va_Nw.warmM hW hwX4, va_Nw.warmM hW hwX0, va_Nw.warmM hW hwX1, va_Nw.warmM hW hwX2⟩⟩ rfl rfl hl.1 rfl (lv_room (Nat.le_of_ble_eq_true rfl)) dL_law_4 ⟨Nat.le_of_ble_eq_true rfl, Nat.le_of_ble_eq_true rfl⟩) hS hFc (fun H1 locs hB9 hz1 hk1 hS => ?_)
  obtain ⟨a, ha0, ha, haA, hX⟩ := hB9
  have haL : ∀ k, k < 17 → s.heap.size ≤ a k := fun k hk => hFc _ (haA k hk)
  have hP : va_P (dC, dI) vwCl (wX a cs (fun _ => 0, 0) (fun _ => 0, 0) (fun _ => 0, fun _ => 0, fun _ => 0, 0) (fun _ => 0) (fun _ => 0, fun _ => 0, fun _ => 0, fun _ => 0, fun _ => 0, 0)) H1 := hX
  generalize H1 = H at hP hS ⊢
  refine W.widen (k := 17) (n := 9070) (by omega) (by omega) ?_
  have hD : va_D (fun q : Nat => s.heap.size ≤ q) (wX a cs (fun _ => 0, 0) (fun _ => 0, 0) (fun _ => 0, fun _ => 0, fun _ => 0, 0) (fun _ => 0) (fun _ => 0, fun _ => 0, fun _ => 0, fun _ => 0, fun _ => 0, 0)) := (wX_D ha).weaken (fun k q hk _ => by rw [(wX_at hk).2]; exact haL k (wX_at hk).1)
  refine lv_astore_n (lv' := [(1, .ref o5), (0, .ref b)]) hx hb dL_law_7 rfl hl (by decide) rfl (fun ls hl => ?_)
  refine va_new (ci := 6) (fs := [.null, .int (nI 0), .int (nI 0), .int (nI 0), .null, .null, .null, .int (nI 0), .null, .null, .null, .null, .null, .null, .null]) (C := RX6) (T := TX6) (N := 15) hx hb hts inlX6 tyX6 tyX6_ok hown (hts (.classLink RL 10 RX6) (by decide +kernel)) (hts (.instantiable RX6 15) (by decide +kernel)) (hts (.initialized RX6) (by decide +kernel)) hK hP hD hS hA rfl (fun j hj => by rcases (show j = 0 ∨ j = 1 ∨ j = 2 ∨ j = 3 ∨ j = 4 ∨ j = 5 ∨ j = 6 ∨ j = 7 ∨ j = 8 ∨ j = 9 ∨ j = 10 ∨ j = 11 ∨ j = 12 ∨ j = 13 ∨ j = 14 by omega) with rfl | rfl | rfl | rfl | rfl | rfl | rfl | rfl | rfl | rfl | rfl | rfl | rfl | rfl | rfl <;> rfl) (Nat.le_of_ble_eq_true rfl) (Nat.le_of_ble_eq_true rfl) dL_law_8 (fun o6 H hP hD hS => ?_)
  have hP : va_P (dC, dI) vwCl (wX a cs (fun _ => 0, 0) (fun _ => 0, 0) (fun _ => 0, fun _ => 0, fun _ => 0, 0) (fun _ => 0) (fun _ => 0, fun _ => 0, fun _ => 0, fun _ => 0, fun _ => 0, 0) ++ [(o6, .inr (6, [.null, .int (nI 0), .int (nI 0), .int (nI 0), .null, .null, .null, .int (nI 0), .null, .null, .null, .null, .null, .null, .null]))]) H := hP
  have hD : va_D (fun q : Nat => s.heap.size ≤ q) (wX a cs (fun _ => 0, 0) (fun _ => 0, 0) (fun _ => 0, fun _ => 0, fun _ => 0, 0) (fun _ => 0) (fun _ => 0, fun _ => 0, fun _ => 0, fun _ => 0, fun _ => 0, 0) ++ [(o6, .inr (6, [.null, .int (nI 0), .int (nI 0), .int (nI 0), .null, .null, .null, .int (nI 0), .null, .null, .null, .null, .null, .null, .null]))]) := hD
  refine W.widen (k := 18) (n := 9085) (by omega) (by omega) ?_
  refine lv_dup hx hb dL_law_11 rfl ?_
  have hPc := hP.sub (ws' := [(o6, .inr (6, [.null, .int (nI 0), .int (nI 0), .int (nI 0), .null, .null, .null, .int (nI 0), .null, .null, .null, .null, .null, .null, .null]))]) [17] rfl
  have hFc := va_free (wc := [(o6, .inr (6, [.null, .int (nI 0), .int (nI 0), .int (nI 0), .null, .null, .null, .int (nI 0), .null, .null, .null, .null, .null, .null, .null]))]) hD hS hA [17] rfl
  refine nz_callC (va_runI (As := []) (rest := [.ref o6]) ⟨hx, hb, hml, hown, hts⟩ (mX6_init l (dC, dI) cs o6 H.size) (cwI 0 hts gL_law_X6_init rfl rfl rfl (hts (.initialized RX6) (by decide +kernel)) (hts (.methodLink RL 12 yX6_init) (by decide +kernel)) (hts (.instanceMethod yX6_init) (by decide +kernel)) rfl (by decide +kernel) ⟨Nat.le_of_ble_eq_true rfl, Nat.le_of_ble_eq_true rfl⟩) ⟨ct_blind, fun U hU hW => ⟨rfl, by rw [hU], by rw [hU]; exact hPc, va_K.moved hW.alike hK⟩⟩ rfl rfl hl.1 rfl (lv_room (Nat.le_of_ble_eq_true rfl)) dL_law_12 ⟨Nat.le_of_ble_eq_true rfl, Nat.le_of_ble_eq_true rfl⟩) hS hFc (fun H1 locs hB9 hz1 hk1 hS => ?_)
  obtain ⟨q1, q2, q3, q4, q5, q6, q7, q8, q9, q10, q11, hP1, hD1⟩ := hB9
  obtain ⟨hP, hD⟩ := va_join (wr := wX a cs (fun _ => 0, 0) (fun _ => 0, 0) (fun _ => 0, fun _ => 0, fun _ => 0, 0) (fun _ => 0) (fun _ => 0, fun _ => 0, fun _ => 0, fun _ => 0, fun _ => 0, 0)) (w1 := [(o6, .inr (6, [.ref q1, .int (nI 0), .int (nI 0), .int (nI 0), .ref q2, .ref q3, .ref q4, .int (nI 0), .ref q5, .ref q6, .ref q7, .ref q8, .ref q9, .ref q10, .ref q11])), (q1, .inl (cs 0, 400, .inl (fun _ => (0 : Int32)))), (q2, .inl (cs 0, 14424, .inl (fun j => nI ((fun _ => 0 : Nat → Nat) j)))), (q3, .inl (cs 1, 601, .inl (fun j => nI ((fun _ => 0 : Nat → Nat) j)))), (q4, .inl (cs 2, 601, .inr (.inl (fun j => lN ((fun _ => 0 : Nat → Nat) j))))), (q5, .inl (cs 0, 1200, .inl (fun j => nI ((fun _ => 0 : Nat → Nat) j)))), (q6, .inl (cs 1, 50, .inl (fun j => nI ((fun _ => 0 : Nat → Nat) j)))), (q7, .inl (cs 2, 50, .inr (.inl (fun j => lN ((fun _ => 0 : Nat → Nat) j))))), (q8, .inl (cs 1, 50, .inl (fun j => nI ((fun _ => 0 : Nat → Nat) j)))), (q9, .inl (cs 3, 600, .inl (fun j => bI ((fun _ => false : Nat → Bool) j)))), (q10, .inl (cs 1, 600, .inl (fun j => nI ((fun _ => 0 : Nat → Nat) j)))), (q11, .inl (cs 1, 25, .inl (fun j => nI ((fun _ => 0 : Nat → Nat) j))))]) hP hD [17] [0, 1, 2, 3, 4, 5, 6, 7, 8, 9, 10, 11, 12, 13, 14, 15, 16] rfl rfl (by decide) (by decide) hk1 hFc hP1 hD1
  generalize H1 = H at hP hS ⊢
  obtain ⟨b9, hb9⟩ : ∃ b9 : Nat → Nat, b9 = (fun k => ([o6, q1, q2, q3, q4, q5, q6, q7, q8, q9, q10, q11] : List Nat).getD k 0) := ⟨_, rfl⟩
  have hP : va_P (dC, dI) vwCl (wX a cs (fun _ => 0, 0) (fun _ => 0, 0) (fun _ => 0, fun _ => 0, fun _ => 0, 0) (fun _ => 0) (fun _ => 0, fun _ => 0, fun _ => 0, fun _ => 0, fun _ => 0, 0) ++ wM b9 cs (fun _ => 0, 0) (fun _ => 0, fun _ => 0, fun _ => 0, 0, 0) (fun _ => 0, fun _ => 0, fun _ => 0, fun _ => 0, 0) (fun _ => false, fun _ => 0, fun _ => 0)) H := by rw [hb9]; exact hP
  have hD : va_D (fun q : Nat => s.heap.size ≤ q) (wX a cs (fun _ => 0, 0) (fun _ => 0, 0) (fun _ => 0, fun _ => 0, fun _ => 0, 0) (fun _ => 0) (fun _ => 0, fun _ => 0, fun _ => 0, fun _ => 0, fun _ => 0, 0) ++ wM b9 cs (fun _ => 0, 0) (fun _ => 0, fun _ => 0, fun _ => 0, 0, 0) (fun _ => 0, fun _ => 0, fun _ => 0, fun _ => 0, 0) (fun _ => false, fun _ => 0, fun _ => 0)) := by rw [hb9]; exact hD
  have hX := hP.sub (ws' := wX a cs (fun _ => 0, 0) (fun _ => 0, 0) (fun _ => 0, fun _ => 0, fun _ => 0, 0) (fun _ => 0) (fun _ => 0, fun _ => 0, fun _ => 0, fun _ => 0, fun _ => 0, 0)) [0, 1, 2, 3, 4, 5, 6, 7, 8, 9, 10, 11, 12, 13, 14, 15, 16] rfl
  have hM := hP.sub (ws' := wM b9 cs (fun _ => 0, 0) (fun _ => 0, fun _ => 0, fun _ => 0, 0, 0) (fun _ => 0, fun _ => 0, fun _ => 0, fun _ => 0, 0) (fun _ => false, fun _ => 0, fun _ => 0)) [17, 18, 19, 20, 21, 22, 23, 24, 25, 26, 27, 28] rfl
  have hDM := hD.sub (ws' := wM b9 cs (fun _ => 0, 0) (fun _ => 0, fun _ => 0, fun _ => 0, 0, 0) (fun _ => 0, fun _ => 0, fun _ => 0, fun _ => 0, 0) (fun _ => false, fun _ => 0, fun _ => 0)) [17, 18, 19, 20, 21, 22, 23, 24, 25, 26, 27, 28] (by decide) rfl
  have hiM := wM_inj hDM
  have hab : ∀ i j, i < 17 → j < 12 → a i ≠ b9 j := fun i j hi hj e9 => by
    obtain ⟨e1, h1⟩ := wX_get (a := a) (cs := cs) (tp := (fun _ => 0, 0)) (wd := (fun _ => 0, 0)) (lx := (fun _ => 0, fun _ => 0, fun _ => 0, 0)) (ro := (fun _ => 0)) (rs := (fun _ => 0, fun _ => 0, fun _ => 0, fun _ => 0, fun _ => 0, 0)) i hi
    obtain ⟨e2, h2⟩ := wM_get (b := b9) (cs := cs) (mt := (fun _ => 0, 0)) (ml := (fun _ => 0, fun _ => 0, fun _ => 0, 0, 0)) (mr := (fun _ => 0, fun _ => 0, fun _ => 0, fun _ => 0, 0)) (mk := (fun _ => false, fun _ => 0, fun _ => 0)) j hj
    have g1 : (wX a cs (fun _ => 0, 0) (fun _ => 0, 0) (fun _ => 0, fun _ => 0, fun _ => 0, 0) (fun _ => 0) (fun _ => 0, fun _ => 0, fun _ => 0, fun _ => 0, fun _ => 0, 0) ++ wM b9 cs (fun _ => 0, 0) (fun _ => 0, fun _ => 0, fun _ => 0, 0, 0) (fun _ => 0, fun _ => 0, fun _ => 0, fun _ => 0, 0) (fun _ => false, fun _ => 0, fun _ => 0))[i]? = some (a i, e1) := by rw [List.getElem?_append_left (show i < 17 from hi)]; exact h1
    have g2 : (wX a cs (fun _ => 0, 0) (fun _ => 0, 0) (fun _ => 0, fun _ => 0, fun _ => 0, 0) (fun _ => 0) (fun _ => 0, fun _ => 0, fun _ => 0, fun _ => 0, fun _ => 0, 0) ++ wM b9 cs (fun _ => 0, 0) (fun _ => 0, fun _ => 0, fun _ => 0, 0, 0) (fun _ => 0, fun _ => 0, fun _ => 0, fun _ => 0, 0) (fun _ => false, fun _ => 0, fun _ => 0))[17 + j]? = some (b9 j, e2) := by rw [List.getElem?_append_right (show 17 ≤ 17 + j by omega)]; show (wM b9 cs (fun _ => 0, 0) (fun _ => 0, fun _ => 0, fun _ => 0, 0, 0) (fun _ => 0, fun _ => 0, fun _ => 0, fun _ => 0, 0) (fun _ => false, fun _ => 0, fun _ => 0))[17 + j - 17]? = _; rw [show 17 + j - 17 = j by omega]; exact h2
    have := hD.1 i (17 + j) _ _ g1 g2 e9
    omega
  refine W.widen (k := 29) (n := 27686) (by omega) (by omega) ?_
  refine lv_astore_n (lv' := [(2, .ref o6), (1, .ref o5), (0, .ref b)]) hx hb dL_law_15 rfl hl (by decide) rfl (fun ls hl => ?_)
  refine lv_iconst (v := nI 0) hx hb dL_law_16 (by decide +kernel) ?_
  refine lv_istore_n (lv' := [(3, .int (nI 0)), (2, .ref o6), (1, .ref o5), (0, .ref b)]) hx hb dL_law_17 rfl hl (by decide) rfl (fun ls hl => ?_)
  have hl : lv_has ls 4 [(0, .ref b), (1, .ref (a 0)), (2, .ref (b9 0)), (3, .int (nI 0))] := by rw [ha0, hb9]; exact lv_sub hl [3, 2, 1, 0] rfl
  exact law_loop (D := (dC, dI)) hC hL hK ha hiM.1 haL hiM.2 hab (L + 4) 0 (by omega) (by omega) _ _ _ _ _ _ _ _ linv_0 H locs hX hM hS ls hl
