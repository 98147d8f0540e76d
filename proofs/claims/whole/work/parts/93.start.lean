theorem la_gt {L i : Nat} (hL : L ≤ 2560) (hi : i ≤ 2560) (h : L < i + 5) : nI L - 5 < nI i := by
  rw [Int32.lt_iff_toInt_lt, show (5 : Int32) = nI 5 from rfl, pk_sub_toInt (by omega) (by decide), nI_toInt (by omega)]
  omega
theorem la_le {L i : Nat} (hL : L ≤ 2560) (h : i + 5 ≤ L) : ¬ nI L - 5 < nI i := by
  rw [Int32.lt_iff_toInt_lt, show (5 : Int32) = nI 5 from rfl, pk_sub_toInt (by omega) (by decide), nI_toInt (by omega)]
  omega
set_option maxHeartbeats 2000000 in
set_option maxRecDepth 100000 in
theorem la_exit {p : Program} {e : Env} {s : State} {m : MethodId} {below : List Frame} {meth : Method} {c : Code} {l : Launch} {b L : Nat} {xs : Nat → Int32} (hx : p.tables.exec = Jvm.exec) (hb : c.code = code) (hr : meth.sig.returnType = ret) (hlocks : meth.locks = false) (hX : va_X b L xs s s.heap) (hbl : b < s.heap.size) (hL : L ≤ 2560) {H : Heap} {locs : List Loc} {cells slots i : Nat} {ls : Array Slot} {lv : List (Nat × Value)} (hi : L < i + 5) (hi2 : i ≤ 2560) (hfc : cells ≤ 600000) (hfs : slots ≤ 7302250) (hS : va_S (cd_A s.heap.size) s.heap H locs) (hl : lv_has ls 4 lv) (h3 : lv[0]? = some (3, .int (nI i))) (h0 : lv[3]? = some (0, .ref b)) : W p l e room_1 s m #[Value.ref b] below meth c H locs cells slots (lw_Z below #[Value.ref b] s) (F0 m 18 ls []) := by
  refine lv_iload_n hx hb d_law_18 rfl (lv_at hl 0 h3) ?_
  refine lv_aload_n hx hb d_law_19 rfl (lv_at hl 3 h0) ?_
  refine va_slen hx hb hX hbl (show ¬ s.heap.size ≤ b by omega) hS d_law_20 ?_
  refine lv_iconst (v := 5) hx hb d_law_21 (by decide) ?_
  refine lv_isub hx hb d_law_22 ?_
  refine lv_icmp_gt (tgt := 489) hx hb d_law_23 (by decide) (fun _ => ?_) (fun q => absurd (la_gt hL hi2 hi) q)
  refine lv_iconst (v := 1) hx hb d_law_489 (by decide) ?_
  refine va_forget (fun q hq => hS.2.2 q hq) ?_
  refine W.widen (k := 600000) (n := 7302250) hfc hfs ?_
  exact lw_ret hx hb hr hlocks d_law_490
set_option maxHeartbeats 2000000 in
set_option maxRecDepth 100000 in
theorem la_body {p : Program} {e : Env} {s : State} {m : MethodId} {below : List Frame} {meth : Method} {c : Code} {l : Launch} {b L : Nat} {xs : Nat → Int32} {D : va_G} {dA : Nat → ClassId} {Q : State → Prop} (hx : p.tables.exec = Jvm.exec) (hb : c.code = code) (hml : c.maxLocals = 4) (hown : s.vm.findClass R_law = some m.cls) (hA : ∀ w ∈ cd_WA, w.before #[Value.ref b] s = true) (hc : (Jvm.Cond.constantLong R_law 13 4294967295).before #[Value.ref b] s = true) (hX : va_X b L xs s s.heap) (hbl : b < s.heap.size) (hL : L ≤ 2560) (hE : cd_EV D (cx_tys dA) s) {σ : cx_S} {μ : cm_S} {ad : Nat → Nat → Nat} {H : Heap} {locs : List Loc} {cells slots i : Nat} {ls : Array Slot} (hi : i + 5 ≤ L) (hfc : cells + 1 ≤ 600000) (hfs : slots + 5 ≤ 7302250) (hW : cx_Wo D dA s.heap.size (wj dA σ μ ad) H) (hS : va_S (cd_A s.heap.size) s.heap H locs) (hl : lv_has ls 4 [(3, .int (nI i)), (2, .ref (ad 9 0)), (1, .ref (ad 0 0)), (0, .ref b)]) (h : Sim (wj dA σ μ ad) (mj dA σ μ ad)) (kk : ∀ (σ : cx_S) (μ : cm_S) (ad : Nat → Nat → Nat) (H : Heap) (locs : List Loc), cx_Wo D dA s.heap.size (wj dA σ μ ad) H → va_S (cd_A s.heap.size) s.heap H locs → lv_has ls 4 [(3, .int (nI i)), (2, .ref (ad 9 0)), (1, .ref (ad 0 0)), (0, .ref b)] → Sim (wj dA σ μ ad) (mj dA σ μ ad) → W p l e room_1 s m #[Value.ref b] below meth c H locs (cells + 1) (slots + 5) Q (F0 m 483 ls [])) : W p l e room_1 s m #[Value.ref b] below meth c H locs cells slots Q (F0 m 18 ls []) := by
  refine lv_iload_n hx hb d_law_18 rfl (lv_at hl 0 rfl) ?_
  refine lv_aload_n hx hb d_law_19 rfl (lv_at hl 3 rfl) ?_
  refine va_slen hx hb hX hbl (show ¬ s.heap.size ≤ b by omega) hS d_law_20 ?_
  refine lv_iconst (v := 5) hx hb d_law_21 (by decide) ?_
  refine lv_isub hx hb d_law_22 ?_
  refine lv_icmp_gt (tgt := 489) hx hb d_law_23 (by decide) (fun q => absurd q (la_le hL hi)) (fun _ => ?_)
  refine lv_aload_n hx hb d_law_26 rfl (lv_at hl 3 rfl) ?_
  refine lv_iload_n hx hb d_law_27 rfl (lv_at hl 0 rfl) ?_
  refine va_sld hx hb hX hbl (show ¬ s.heap.size ≤ b by omega) hS (vp_in_nI (show i < L by omega) (by omega)) d_law_28 ?_
  refine lv_bipush (v := 15) hx hb d_law_29 (by decide) ?_
  refine lv_iand hx hb d_law_31 ?_
  refine lv_topi (fun z ez => ?_)
  clear ez
  by_cases h0 : z = 0
  · subst h0
    refine lv_tableIn (tgt := 84) (off := 52) hx hb d_law_32 (by decide) (by decide) (by decide) (by decide) ?_
    exact la_collect hx hb hml hown hA hc hX hbl hL hE hi hfc hfs hW hS hl h kk
  by_cases h1 : z = 1
  · subst h1
    refine lv_tableIn (tgt := 147) (off := 115) hx hb d_law_32 (by decide) (by decide) (by decide) (by decide) ?_
    exact la_answer hx hb hml hown hA hc hX hbl hL hE hi hfc hfs hW hS hl h kk
  by_cases h2 : z = 2
  · subst h2
    refine lv_tableIn (tgt := 210) (off := 178) hx hb d_law_32 (by decide) (by decide) (by decide) (by decide) ?_
    exact la_fails hx hb hml hown hA hc hX hbl hL hE hi hfc hfs hW hS hl h kk
  by_cases h3 : z = 3
  · subst h3
    refine lv_tableIn (tgt := 243) (off := 211) hx hb d_law_32 (by decide) (by decide) (by decide) (by decide) ?_
    exact la_make hx hb hml hown hA hc hX hbl hL hE hi hfc hfs hW hS hl h kk
  by_cases h4 : z = 4
  · subst h4
    refine lv_tableIn (tgt := 266) (off := 234) hx hb d_law_32 (by decide) (by decide) (by decide) (by decide) ?_
    exact la_call hx hb hml hown hA hc hX hbl hL hE hi hfc hfs hW hS hl h kk
  by_cases h5 : z = 5
  · subst h5
    refine lv_tableIn (tgt := 340) (off := 308) hx hb d_law_32 (by decide) (by decide) (by decide) (by decide) ?_
    exact la_told hx hb hml hown hA hc hX hbl hL hE hi hfc hfs hW hS hl h kk
  by_cases h6 : z = 6
  · subst h6
    refine lv_tableIn (tgt := 363) (off := 331) hx hb d_law_32 (by decide) (by decide) (by decide) (by decide) ?_
    exact la_drop hx hb hml hown hA hc hX hbl hL hE hi hfc hfs hW hS hl h kk
  by_cases h7 : z = 7
  · subst h7
    refine lv_tableIn (tgt := 386) (off := 354) hx hb d_law_32 (by decide) (by decide) (by decide) (by decide) ?_
    exact la_numbers hx hb hml hown hA hc hX hbl hL hE hi hfc hfs hW hS hl h kk
  by_cases h8 : z = 8
  · subst h8
    refine lv_tableIn (tgt := 409) (off := 377) hx hb d_law_32 (by decide) (by decide) (by decide) (by decide) ?_
    exact la_again hx hb hml hown hA hc hX hbl hL hE hi hfc hfs hW hS hl h kk
  refine lv_tableOut (tgt := 483) hx hb d_law_32 (by have g0 := cd_ne 0 0 (by decide) h0; have g1 := cd_ne 1 1 (by decide) h1; have g2 := cd_ne 2 2 (by decide) h2; have g3 := cd_ne 3 3 (by decide) h3; have g4 := cd_ne 4 4 (by decide) h4; have g5 := cd_ne 5 5 (by decide) h5; have g6 := cd_ne 6 6 (by decide) h6; have g7 := cd_ne 7 7 (by decide) h7; have g8 := cd_ne 8 8 (by decide) h8; omega) (by decide) ?_
  refine W.widen (k := cells + 1) (n := slots + 5) (by omega) (by omega) ?_
  exact kk _ _ _ _ _ hW hS hl h
set_option maxHeartbeats 2000000 in
set_option maxRecDepth 100000 in
theorem la_loop {p : Program} {e : Env} {s : State} {m : MethodId} {below : List Frame} {meth : Method} {c : Code} {l : Launch} {b L : Nat} {xs : Nat → Int32} {D : va_G} {dA : Nat → ClassId} (hx : p.tables.exec = Jvm.exec) (hb : c.code = code) (hml : c.maxLocals = 4) (hown : s.vm.findClass R_law = some m.cls) (hA : ∀ w ∈ cd_WA, w.before #[Value.ref b] s = true) (hc : (Jvm.Cond.constantLong R_law 13 4294967295).before #[Value.ref b] s = true) (hX : va_X b L xs s s.heap) (hbl : b < s.heap.size) (hL : L ≤ 2560) (hE : cd_EV D (cx_tys dA) s) (hr : meth.sig.returnType = ret) (hlocks : meth.locks = false) : ∀ (n i : Nat), L < i + 5 + n → i ≤ L → ∀ (σ : cx_S) (μ : cm_S) (ad : Nat → Nat → Nat) (H : Heap) (locs : List Loc) (ls : Array Slot), cx_Wo D dA s.heap.size (wj dA σ μ ad) H → va_S (cd_A s.heap.size) s.heap H locs → lv_has ls 4 [(3, .int (nI i)), (2, .ref (ad 9 0)), (1, .ref (ad 0 0)), (0, .ref b)] → Sim (wj dA σ μ ad) (mj dA σ μ ad) → W p l e room_1 s m #[Value.ref b] below meth c H locs (34 + i) (3022 + i) (lw_Z below #[Value.ref b] s) (F0 m 18 ls []) := by
  intro n
  induction n with
  | zero =>
    intro i hn hiL σ μ ad H locs ls hW hS hl h
    exact la_exit hx hb hr hlocks hX hbl hL hn (by omega) (by omega) (by omega) hS hl rfl rfl
  | succ n ih =>
    intro i hn hiL σ μ ad H locs ls hW hS hl h
    by_cases hi : i + 5 ≤ L
    · refine la_body hx hb hml hown hA hc hX hbl hL hE hi (show 34 + i + 1 ≤ 600000 by omega) (show 3022 + i + 5 ≤ 7302250 by omega) hW hS hl h (fun σ μ ad H locs hW hS hl h => ?_)
      refine lv_iinc (v := (nI (i + 5))) (lv' := [(3, .int (nI (i + 5))), (2, .ref (ad 9 0)), (1, .ref (ad 0 0)), (0, .ref b)]) hx hb d_law_483 hl (k := 0) rfl (by rw [show Int32.ofInt 5 = nI 5 by decide]; exact nI_add _ _) (by decide) rfl (fun ls hl => ?_)
      refine lv_goto (tgt := 18) hx hb d_law_486 (by decide) ?_
      refine W.widen (k := 34 + (i + 5)) (n := 3022 + (i + 5)) (by omega) (by omega) ?_
      exact ih (i + 5) (by omega) hi σ μ ad H locs ls hW hS hl h
    · exact la_exit hx hb hr hlocks hX hbl hL (by omega) (by omega) (by omega) (by omega) hS hl rfl rfl
theorem la_nest : ∀ w ∈ cd_nest, w ∈ lw_tbl := by decide +kernel
theorem la_aO : ∀ C ∈ cd_aos, (.arrayOver (.object C) : Cond) ∈ lw_tbl := by decide +kernel
theorem la_arr {s : State} {A : Array Value} {ty : FieldType} (h : (Cond.arrayClass ty).before A s = true) (hty : ∀ C, ty ≠ .object C) : ∃ cA, ArrOfT s cA ty ∧ va_RA s cA ty := by
  obtain ⟨cA, kA, comp, h1, h2, h3⟩ := Cond.arrayClass_spec h
  refine ⟨cA, fun n z => ⟨fun k h => (by cases h), kA, h2, comp, h3⟩, ?_⟩
  cases ty with
  | object C => exact absurd rfl (hty C)
  | _ => exact h1
theorem la_arq {s : State} {A : Array Value} {C : String} (h : (Cond.arrayOver (.object C)).before A s = true) : ∃ cA, ArrOfT s cA (.object C) ∧ va_RA s cA (.object C) := by
  obtain ⟨comp, cA, kA, h1, -, h2, h3, h4⟩ := Cond.arrayOver_spec h
  exact ⟨cA, fun n z => ⟨fun k h => (by cases h), kA, h2, comp, h3⟩, kA, comp, h2, h3, h1, h4⟩
def la_f5 {α : Type} (a b c d e : α) : Nat → α := fun k => match k with
  | 0 => a
  | 1 => b
  | 2 => c
  | 3 => d
  | _ => e
theorem la_EV {s : State} {A : Array Value} (hts : ∀ w ∈ lw_tbl, w.before A s = true) (hA : ∀ w ∈ cd_WA, w.before A s = true) : ∃ (D : va_G) (dA : Nat → ClassId), cd_EV D (cx_tys dA) s := by
  obtain ⟨c0, i0, k0⟩ := u_known (n := 14) hA i_CarDesk (hA _ mw_337)
  obtain ⟨c1, i1, k1⟩ := u_known (n := 3) hA i_Tray (hA _ mw_258)
  obtain ⟨c2, i2, k2⟩ := u_known (n := 2) hA i_Shelf (hA _ mw_263)
  obtain ⟨c3, i3, k3⟩ := u_known (n := 5) hA i_Thing (hA _ mw_155)
  obtain ⟨c4, i4, k4⟩ := u_known (n := 20) hA i_Model (hA _ mw_338)
  obtain ⟨a0, t0, r0⟩ := la_arr (hA _ mw_252) (fun C h => by cases h)
  obtain ⟨a1, t1, r1⟩ := la_arr (hA _ mw_262) (fun C h => by cases h)
  obtain ⟨a4, t4, r4⟩ := la_arr (hA _ mw_267) (fun C h => by cases h)
  obtain ⟨a2, t2, r2⟩ := la_arq (hts _ (la_aO R_Shelf (by decide)))
  obtain ⟨a3, t3, r3⟩ := la_arq (hts _ (la_aO R_Thing (by decide)))
  refine ⟨(la_f5 c0 c1 c2 c3 c4, la_f5 i0 i1 i2 i3 i4), la_f5 a0 a1 a2 a3 a4, ⟨fun c q h => ?_, fun k q h => ?_⟩, fun w hw => va_Nw.of (cd_isN_tab (cd_nest_ok w hw)) (hts w (la_nest w hw)), fun C hC => va_AO.of (hts _ (la_aO C hC))⟩
  · match c, h with
    | 0, h => cases h; exact k0
    | 1, h => cases h; exact k1
    | 2, h => cases h; exact k2
    | 3, h => cases h; exact k3
    | 4, h => cases h; exact k4
    | _ + 5, h => simp at h
  · match k, h with
    | 0, h => cases h; exact ⟨t0, r0⟩
    | 1, h => cases h; exact ⟨t1, r1⟩
    | 2, h => cases h; exact ⟨t2, r2⟩
    | 3, h => cases h; exact ⟨t3, r3⟩
    | 4, h => cases h; exact ⟨t4, r4⟩
    | _ + 5, h => simp at h
theorem la_ci0 {x y : Nat} (h : ci_dm 0 0 0 (fun _ _ => False) x y) : x = 0 ∧ y = 0 := match x, h with
  | 0, h => ⟨rfl, h⟩
  | 1, h => absurd h (Nat.not_lt_zero _)
  | 2, h => absurd h (Nat.not_lt_zero _)
  | 3, h => absurd h.2 (by decide)
  | 4, h => absurd h (Nat.not_lt_zero _)
  | 5, h => absurd h (Nat.not_lt_zero _)
  | 6, h => absurd h.2 (by decide)
  | 7, h => absurd h.2 (by decide)
  | 8, h => False.elim h
  | _ + 9, h => False.elim h
theorem la_mi0 (dA : Nat → ClassId) (ad : Nat → Nat → Nat) (fs : List Value) : ∀ q x y, mi_dm 0 (drX cx_0) x y → (x = 9 ∧ y = 0) ∨ (cx_dm (cx_0, ad, (fun _ _ => False), (fun _ _ => jE)) x y ∧ ad2 ad 9 0 q x y = ad x y ∧ mi_ce dA (ad2 ad 9 0 q) fs (crX dA cx_0 ad) x y = cx_ce dA (cx_0, ad, (fun _ _ => False), (fun _ _ => jE)) x y) := fun q x y hd => by
  by_cases h1 : x = 9
  · subst h1
    exact Or.inl ⟨rfl, hd⟩
  · by_cases h2 : x = 10
    · subst h2
      exact absurd (show y < 0 from hd) (Nat.not_lt_zero _)
    · rw [mi_dmo h1 h2] at hd
      exact Or.inr ⟨hd, ad2_n (fun z => h1 z.1), mi_other h1 h2⟩
set_option maxHeartbeats 4000000 in
set_option maxRecDepth 100000 in
theorem whole_start {p : Program} {e : Env} {s : State} {m : MethodId} {below : List Frame} {meth : Method} {c : Code} (l : Launch) {b L : Nat} {xs : Nat → Int32} (hL : L ≤ 2560) (C0 : lw_At p s m meth c b L xs) : W p l e room_1 s m #[Value.ref b] below meth c s.heap [] 0 0 (lw_Z below #[Value.ref b] s) (entryFrame m ([Value.ref b] : List Value).toArray 4) := by
  obtain ⟨hx, hb, hr, hml, hown, hts, hX, hbl, hlocks, -⟩ := C0
  have hA : ∀ w ∈ cd_WA, w.before #[Value.ref b] s = true := fun w hw => hts w (List.mem_filter.mp hw).1
  have hc : (Jvm.Cond.constantLong R_law 13 4294967295).before #[Value.ref b] s = true := hts _ (List.mem_append_right _ (List.mem_of_getElem? (i := 470) (by decide +kernel)))
  obtain ⟨D, dA, hE⟩ := la_EV hts hA
  have hK := hE.1
  have hl := lv_entry ([Value.ref b] : List Value) (n := 4) (Nat.le_of_ble_eq_true rfl)
  rw [lg_entry_eq]
  generalize (lg_sl ([Value.ref b] : List Value) ++ List.replicate (4 - (lg_sl ([Value.ref b] : List Value)).length) Slot.unset).toArray = ls at hl ⊢
  have hl : lv_has ls 4 [(0, .ref b)] := hl
  have hW : cd_Wo D s.heap.size (fun _ _ => False) (fun _ _ => 0) (fun _ _ => jE) s.heap := ⟨fun _ _ h => h.elim, fun _ _ _ _ h => h.elim⟩
  have hS : va_S (cd_A s.heap.size) s.heap s.heap [] := va_S.rf
  refine cd_new (ci := 0) (C := R_CarDesk) (T := F_CarDesk) (N := 14) (fs := [.null, .null, .null, .null, .null, .null, .int 0, .int 0, .int 0, .int 0, .int 0, .int 0, .int 0, .int 0]) hx hb hA i_CarDesk t_CarDesk t_CarDesk_ok hown mw_339 mw_337 mw_32 hK (Nat.le_refl _) hW hS rfl (fun j hj => by rcases (show j = 0 ∨ j = 1 ∨ j = 2 ∨ j = 3 ∨ j = 4 ∨ j = 5 ∨ j = 6 ∨ j = 7 ∨ j = 8 ∨ j = 9 ∨ j = 10 ∨ j = 11 ∨ j = 12 ∨ j = 13 by omega) with rfl | rfl | rfl | rfl | rfl | rfl | rfl | rfl | rfl | rfl | rfl | rfl | rfl | rfl <;> rfl) (by decide) (by decide) d_law_0 0 0 (ci_dm 0 0 0 (fun _ _ => False)) (fun q => ad2 (fun _ _ => 0) 0 0 q) (fun q => ci_ce dA (ad2 (fun _ _ => 0) 0 0 q) [.null, .null, .null, .null, .null, .null, .int 0, .int 0, .int 0, .int 0, .int 0, .int 0, .int 0, .int 0] 0 (fun _ _ => jE)) (fun q => ad2_s _ _ _ q) (fun _ => rfl) (fun _ x y hd => Or.inl (la_ci0 hd)) (fun q H hW hS => ?_)
  obtain ⟨adA, eA⟩ : ∃ z, z = ad2 (fun _ _ => 0) 0 0 q := ⟨_, rfl⟩
  have hW : cd_Wo D s.heap.size (ci_dm 0 0 0 (fun _ _ => False)) adA (ci_ce dA adA [.null, .null, .null, .null, .null, .null, .int 0, .int 0, .int 0, .int 0, .int 0, .int 0, .int 0, .int 0] 0 (fun _ _ => jE)) H := by rw [eA]; exact hW
  have eq0 : q = adA 0 0 := by rw [eA]; rfl
  rw [eq0]
  clear eA eq0
  refine lv_dup hx hb d_law_3 rfl ?_
  refine cd_cI (n := 0) (As := []) (rest := [.ref (adA 0 0)]) ⟨hx, hb, hml, hown, hA⟩ (cd_GA mw_340) hE (Nat.le_refl _) hW hS (adA 0 0) (c_CarDesk_init l D dA s.heap.size adA (fun _ _ => jE)) mw_341 mw_342 mw_32 rfl ⟨by decide, by decide, by decide +kernel⟩ rfl rfl ⟨by decide, by decide⟩ rfl hl.1 rfl (Nat.le_of_ble_eq_true rfl) d_law_4 ⟨by decide, by decide⟩ (fun v dm1 ad1 ce1 H locs hQ hW hS => ?_)
  obtain ⟨rfl, rfl, rfl, e1⟩ := hQ
  show W p l e room_1 s m #[Value.ref b] below meth c H locs _ _ (lw_Z below #[Value.ref b] s) (F0 m 7 ls [.ref (adA 0 0)])
  rw [← e1]
  refine lv_astore_n (lv' := [(1, .ref (ad1 0 0)), (0, .ref b)]) hx hb d_law_7 rfl hl (by decide) rfl (fun ls hl => ?_)
  refine cd_new (ci := 4) (C := R_Model) (T := F_Model) (N := 20) (fs := [.int 0, .null, .null, .null, .null, .null, .null, .null, .null, .null, .null, .null, .int 0, .int 0, .int 0, .int 0, .int 0, .int 0, .int 0, .int 0]) hx hb hA i_Model t_Model t_Model_ok hown mw_343 mw_338 mw_174 hK (Nat.le_refl _) hW hS rfl (fun j hj => by rcases (show j = 0 ∨ j = 1 ∨ j = 2 ∨ j = 3 ∨ j = 4 ∨ j = 5 ∨ j = 6 ∨ j = 7 ∨ j = 8 ∨ j = 9 ∨ j = 10 ∨ j = 11 ∨ j = 12 ∨ j = 13 ∨ j = 14 ∨ j = 15 ∨ j = 16 ∨ j = 17 ∨ j = 18 ∨ j = 19 by omega) with rfl | rfl | rfl | rfl | rfl | rfl | rfl | rfl | rfl | rfl | rfl | rfl | rfl | rfl | rfl | rfl | rfl | rfl | rfl | rfl <;> rfl) (by decide) (by decide) d_law_8 9 0 (mi_dm 0 (drX cx_0)) (fun q => ad2 ad1 9 0 q) (fun q => mi_ce dA (ad2 ad1 9 0 q) [.int 0, .null, .null, .null, .null, .null, .null, .null, .null, .null, .null, .null, .int 0, .int 0, .int 0, .int 0, .int 0, .int 0, .int 0, .int 0] (crX dA cx_0 ad1)) (fun q => ad2_s _ _ _ q) (fun _ => rfl) (la_mi0 dA ad1 [.int 0, .null, .null, .null, .null, .null, .null, .null, .null, .null, .null, .null, .int 0, .int 0, .int 0, .int 0, .int 0, .int 0, .int 0, .int 0]) (fun q H hW hS => ?_)
  obtain ⟨adB, eB⟩ : ∃ z, z = ad2 ad1 9 0 q := ⟨_, rfl⟩
  have hW : cd_Wo D s.heap.size (mi_dm 0 (drX cx_0)) adB (mi_ce dA adB [.int 0, .null, .null, .null, .null, .null, .null, .null, .null, .null, .null, .null, .int 0, .int 0, .int 0, .int 0, .int 0, .int 0, .int 0, .int 0] (crX dA cx_0 ad1)) H := by rw [eB]; exact hW
  have eq0 : q = adB 9 0 := by rw [eB]; exact (ad2_s _ _ _ _).symm
  have eB9 : ∀ x y, ¬ (x = 9 ∧ y = 0) → adB x y = ad1 x y := by rw [eB]; exact fun x y h => ad2_n h
  rw [eq0]
  clear eB eq0
  refine lv_dup hx hb d_law_11 rfl ?_
  refine cd_cI (n := 0) (As := []) (rest := [.ref (adB 9 0)]) ⟨hx, hb, hml, hown, hA⟩ (cd_GA mw_344) hE (Nat.le_refl _) hW hS (adB 9 0) (c_Model_init l D dA s.heap.size adB (crX dA cx_0 ad1) (drX cx_0)) mw_345 mw_346 mw_174 rfl ⟨by decide, by decide, by decide +kernel⟩ rfl rfl ⟨by decide, by decide⟩ rfl hl.1 rfl (Nat.le_of_ble_eq_true rfl) d_law_12 ⟨by decide, by decide⟩ (fun v dm1 ad2_ ce1 H locs hQ hW hS => ?_)
  obtain ⟨rfl, rfl, rfl, e2⟩ := hQ
  have eX : crX dA cx_0 ad1 = crX dA cx_0 ad2_ := (crX_ad (fun x y h => (e2 x y (by omega)).trans (eB9 x y (fun z => by omega)))).symm
  rw [eX] at hW
  have hW : cx_Wo D dA s.heap.size (wj dA cx_0 cm_0 ad2_) H := br_x0 hW
  rw [← eB9 0 0 (by decide), ← e2 0 0 (by decide)] at hl
  show W p l e room_1 s m #[Value.ref b] below meth c H locs _ _ (lw_Z below #[Value.ref b] s) (F0 m 15 ls [.ref (adB 9 0)])
  rw [← e2 9 0 (by decide)]
  refine lv_astore_n (lv' := [(2, .ref (ad2_ 9 0)), (1, .ref (ad2_ 0 0)), (0, .ref b)]) hx hb d_law_15 rfl hl (by decide) rfl (fun ls hl => ?_)
  refine lv_iconst (v := 0) hx hb d_law_16 (by decide) ?_
  refine lv_istore_n (lv' := [(3, .int (nI 0)), (2, .ref (ad2_ 9 0)), (1, .ref (ad2_ 0 0)), (0, .ref b)]) hx hb d_law_17 rfl hl (by decide) rfl (fun ls hl => ?_)
  exact la_loop hx hb hml hown hA hc hX hbl hL hE hr hlocks L 0 (by omega) (Nat.zero_le _) cx_0 cm_0 ad2_ H locs ls hW hS hl (sim_00 _ _)
