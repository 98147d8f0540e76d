/-! reading the script -/
abbrev la_lj (v u : Int32) : Int64 := (v.toInt64 <<< ((32 : Int32).toInt64 &&& 63)) ||| (u.toInt64 &&& 4294967295)
section LA
variable {p : Program} {e : Env} {s : State} {m : MethodId} {below : List Frame} {meth : Method} {c : Code} {l : Launch} {b L : Nat} {xs : Nat → Int32} {D : va_G} {dA : Nat → ClassId} {Q : State → Prop}
variable {H : Heap} {locs : List Loc} {cells slots : Nat} {ls : Array Slot} {rest : List Value} {lv : List (Nat × Value)} {i : Nat} {pc : Nat}
theorem la_rd (hx : p.tables.exec = Jvm.exec) (hb : c.code = code) (hX : va_X b L xs s s.heap) (hbl : b < s.heap.size) (hL : L ≤ 2560) (hS : va_S (cd_A s.heap.size) s.heap H locs) (hl : lv_has ls 4 lv) (h3 : lv[0]? = some (3, .int (nI i))) (h0 : lv[3]? = some (0, .ref b)) (k : Nat) {z : Int} (hz : Int32.ofInt z = nI k) (hk : i + k < L) {v : Int32} (hv : xs (i + k) = v)
    (d0 : decode code pc = .ok (.aload_n 0, 1)) (d1 : decode code (pc + 1) = .ok (.iload_n 3, 1)) (d2 : decode code (pc + 1 + 1) = .ok (.iconst z, 1)) (d3 : decode code (pc + 1 + 1 + 1) = .ok (.iadd, 1)) (d4 : decode code (pc + 1 + 1 + 1 + 1) = .ok (.iaload, 1))
    (kk : W p l e room_1 s m #[Value.ref b] below meth c H locs cells slots Q (F0 m (pc + 5) ls (.int v :: rest))) : W p l e room_1 s m #[Value.ref b] below meth c H locs cells slots Q (F0 m pc ls rest) := by
  refine lv_aload_n hx hb d0 rfl (lv_at hl 3 h0) ?_
  refine lv_iload_n hx hb d1 rfl (lv_at hl 0 h3) ?_
  refine lv_iconst hx hb d2 hz ?_
  refine lv_iadd hx hb d3 ?_
  rw [nI_add]
  refine va_sld hx hb hX hbl (show ¬ s.heap.size ≤ b by omega) hS (vp_in_nI hk (by omega)) d4 ?_
  rw [nI_clamp (by omega), hv]
  exact kk
theorem la_rdl (hx : p.tables.exec = Jvm.exec) (hb : c.code = code) (hown : s.vm.findClass R_law = some m.cls) (hc : (Jvm.Cond.constantLong R_law 13 4294967295).before #[Value.ref b] s = true) (hX : va_X b L xs s s.heap) (hbl : b < s.heap.size) (hL : L ≤ 2560) (hS : va_S (cd_A s.heap.size) s.heap H locs) (hl : lv_has ls 4 lv) (h3 : lv[0]? = some (3, .int (nI i))) (h0 : lv[3]? = some (0, .ref b)) (k k' : Nat) {z z' : Int} (hz : Int32.ofInt z = nI k) (hz' : Int32.ofInt z' = nI k') (hk : i + k < L) (hk' : i + k' < L) {v u : Int32} (hv : xs (i + k) = v) (hu : xs (i + k') = u)
    (d0 : decode code pc = .ok (.aload_n 0, 1)) (d1 : decode code (pc + 1) = .ok (.iload_n 3, 1)) (d2 : decode code (pc + 1 + 1) = .ok (.iconst z, 1)) (d3 : decode code (pc + 1 + 1 + 1) = .ok (.iadd, 1)) (d4 : decode code (pc + 1 + 1 + 1 + 1) = .ok (.iaload, 1))
    (d5 : decode code (pc + 5) = .ok (.i2l, 1)) (d6 : decode code (pc + 5 + 1) = .ok (.bipush 32, 2)) (d7 : decode code (pc + 5 + 1 + 2) = .ok (.lshl, 1))
    (e0 : decode code (pc + 9) = .ok (.aload_n 0, 1)) (e1 : decode code (pc + 9 + 1) = .ok (.iload_n 3, 1)) (e2 : decode code (pc + 9 + 1 + 1) = .ok (.iconst z', 1)) (e3 : decode code (pc + 9 + 1 + 1 + 1) = .ok (.iadd, 1)) (e4 : decode code (pc + 9 + 1 + 1 + 1 + 1) = .ok (.iaload, 1))
    (e5 : decode code (pc + 14) = .ok (.i2l, 1)) (e6 : decode code (pc + 14 + 1) = .ok (.ldc2_w 13, 3)) (e7 : decode code (pc + 14 + 1 + 3) = .ok (.land, 1)) (e8 : decode code (pc + 14 + 1 + 3 + 1) = .ok (.lor, 1))
    (kk : W p l e room_1 s m #[Value.ref b] below meth c H locs cells slots Q (F0 m (pc + 20) ls (.long (la_lj v u) :: rest))) : W p l e room_1 s m #[Value.ref b] below meth c H locs cells slots Q (F0 m pc ls rest) := by
  refine la_rd hx hb hX hbl hL hS hl h3 h0 k hz hk hv d0 d1 d2 d3 d4 ?_
  refine lv_i2l hx hb d5 rfl ?_
  refine lv_bipush (v := 32) hx hb d6 (by decide) ?_
  refine lv_lshl hx hb d7 rfl ?_
  refine la_rd (pc := pc + 9) hx hb hX hbl hL hS hl h3 h0 k' hz' hk' hu e0 e1 e2 e3 e4 ?_
  refine lv_i2l (pc := pc + 14) hx hb e5 rfl ?_
  refine lv_ldc2 hx hb hown hc e6 ?_
  refine lv_land hx hb e7 ?_
  refine lv_lor hx hb e8 ?_
  exact kk
end LA
set_option maxHeartbeats 2000000 in
set_option maxRecDepth 100000 in
theorem la_collect {p : Program} {e : Env} {s : State} {m : MethodId} {below : List Frame} {meth : Method} {c : Code} {l : Launch} {b L : Nat} {xs : Nat → Int32} {D : va_G} {dA : Nat → ClassId} {Q : State → Prop} (hx : p.tables.exec = Jvm.exec) (hb : c.code = code) (hml : c.maxLocals = 4) (hown : s.vm.findClass R_law = some m.cls) (hA : ∀ w ∈ cd_WA, w.before #[Value.ref b] s = true) (hc : (Jvm.Cond.constantLong R_law 13 4294967295).before #[Value.ref b] s = true) (hX : va_X b L xs s s.heap) (hbl : b < s.heap.size) (hL : L ≤ 2560) (hE : cd_EV D (cx_tys dA) s) {σ : cx_S} {μ : cm_S} {ad : Nat → Nat → Nat} {H : Heap} {locs : List Loc} {cells slots i : Nat} {ls : Array Slot} (hi : i + 5 ≤ L) (hfc : cells + 1 ≤ 600000) (hfs : slots + 5 ≤ 7302250) (hW : cx_Wo D dA s.heap.size (wj dA σ μ ad) H) (hS : va_S (cd_A s.heap.size) s.heap H locs) (hl : lv_has ls 4 [(3, .int (nI i)), (2, .ref (ad 9 0)), (1, .ref (ad 0 0)), (0, .ref b)]) (h : Sim (wj dA σ μ ad) (mj dA σ μ ad)) (kk : ∀ (σ : cx_S) (μ : cm_S) (ad : Nat → Nat → Nat) (H : Heap) (locs : List Loc), cx_Wo D dA s.heap.size (wj dA σ μ ad) H → va_S (cd_A s.heap.size) s.heap H locs → lv_has ls 4 [(3, .int (nI i)), (2, .ref (ad 9 0)), (1, .ref (ad 0 0)), (0, .ref b)] → Sim (wj dA σ μ ad) (mj dA σ μ ad) → W p l e room_1 s m #[Value.ref b] below meth c H locs (cells + 1) (slots + 5) Q (F0 m 483 ls [])) : W p l e room_1 s m #[Value.ref b] below meth c H locs cells slots Q (F0 m 84 ls []) := by
  obtain ⟨x1, ex1⟩ : ∃ x, xs (i + 1) = x := ⟨_, rfl⟩
  obtain ⟨x2, ex2⟩ : ∃ x, xs (i + 2) = x := ⟨_, rfl⟩
  obtain ⟨x3, ex3⟩ : ∃ x, xs (i + 3) = x := ⟨_, rfl⟩
  refine lv_aload_n hx hb d_law_84 rfl (lv_at hl 2 rfl) ?_
  refine la_rd hx hb hX hbl hL hS hl rfl rfl 1 (by decide) (by omega) (v := x1) ex1 d_law_85 d_law_86 d_law_87 d_law_88 d_law_89 ?_
  refine la_rdl hx hb hown hc hX hbl hL hS hl rfl rfl 2 3 (by decide) (by decide) (by omega) (by omega) (v := x2) (u := x3) ex2 ex3 d_law_90 d_law_91 d_law_92 d_law_93 d_law_94 d_law_95 d_law_96 d_law_98 d_law_99 d_law_100 d_law_101 d_law_102 d_law_103 d_law_104 d_law_105 d_law_108 d_law_109 ?_
  refine cx_cV (As := [.int x1, .long (la_lj x2 x3)]) (n := 2) (rest := []) ⟨hx, hb, hml, hown, hA⟩ (cd_GA mw_268) hE (Nat.le_refl _) hW hS 0 0 rfl rfl rfl (c_CarDesk_collect l D dA s.heap.size (wj dA σ μ ad) x1 (la_lj x2 x3) h.Iv) mw_269 mw_270 mw_271 mw_32 ⟨by decide, by decide, by decide +kernel⟩ rfl rfl ⟨by decide, by decide⟩ rfl hl.1 rfl (by decide) d_law_110 ⟨show cells + 0 ≤ 600000 by omega, show slots + 0 ≤ 7302250 by omega⟩ (fun H locs hW hS => ?_)
  have hW := br_m (k_collect (wj dA σ μ ad) x1 (la_lj x2 x3)) hW
  have h : Sim (wj dA σ μ ad) (mj dA ((f_CarDesk_collect (wj dA σ μ ad) x1 (la_lj x2 x3)).2.1) μ ad) := h
  show W p l e room_1 s m #[Value.ref b] below meth c H locs _ _ Q (F0 m 113 ls [.int (f_CarDesk_collect (wj dA σ μ ad) x1 (la_lj x2 x3)).1])
  refine lv_aload_n hx hb d_law_113 rfl (lv_at hl 1 rfl) ?_
  refine la_rd hx hb hX hbl hL hS hl rfl rfl 1 (by decide) (by omega) (v := x1) ex1 d_law_114 d_law_115 d_law_116 d_law_117 d_law_118 ?_
  refine la_rdl hx hb hown hc hX hbl hL hS hl rfl rfl 2 3 (by decide) (by decide) (by omega) (by omega) (v := x2) (u := x3) ex2 ex3 d_law_119 d_law_120 d_law_121 d_law_122 d_law_123 d_law_124 d_law_125 d_law_127 d_law_128 d_law_129 d_law_130 d_law_131 d_law_132 d_law_133 d_law_134 d_law_137 d_law_138 ?_
  refine cm_cV (As := [.int x1, .long (la_lj x2 x3)]) (n := 2) (rest := [.int (f_CarDesk_collect (wj dA σ μ ad) x1 (la_lj x2 x3)).1]) ⟨hx, hb, hml, hown, hA⟩ (cd_GA mw_272) hE (Nat.le_refl _) hW hS 9 0 rfl rfl rfl (c_Model_collect l D dA s.heap.size (mj dA ((f_CarDesk_collect (wj dA σ μ ad) x1 (la_lj x2 x3)).2.1) μ ad) x1 (la_lj x2 x3) h.co) mw_273 mw_274 mw_275 mw_174 ⟨by decide, by decide, by decide +kernel⟩ rfl rfl ⟨by decide, by decide⟩ rfl hl.1 rfl (Nat.le_of_ble_eq_true rfl) d_law_139 ⟨show cells + 0 + 0 ≤ 600000 by omega, show slots + 0 + 0 ≤ 7302250 by omega⟩ (fun H locs hW hS => ?_)
  obtain ⟨es, h⟩ := sim_collect h x1 (la_lj x2 x3)
  have hW := br_x (σ := ((f_CarDesk_collect (wj dA σ μ ad) x1 (la_lj x2 x3)).2.1)) (km_collect (mj dA ((f_CarDesk_collect (wj dA σ μ ad) x1 (la_lj x2 x3)).2.1) μ ad) x1 (la_lj x2 x3)) hW
  refine lv_icmp_eq (tgt := 483) hx hb d_law_142 (by decide) (fun _ => ?_) (fun q => absurd es q)
  refine W.widen (k := cells + 1) (n := slots + 5) (by omega) (by omega) ?_
  exact kk _ _ _ _ _ hW hS hl h
set_option maxHeartbeats 2000000 in
set_option maxRecDepth 100000 in
theorem la_answer {p : Program} {e : Env} {s : State} {m : MethodId} {below : List Frame} {meth : Method} {c : Code} {l : Launch} {b L : Nat} {xs : Nat → Int32} {D : va_G} {dA : Nat → ClassId} {Q : State → Prop} (hx : p.tables.exec = Jvm.exec) (hb : c.code = code) (hml : c.maxLocals = 4) (hown : s.vm.findClass R_law = some m.cls) (hA : ∀ w ∈ cd_WA, w.before #[Value.ref b] s = true) (hc : (Jvm.Cond.constantLong R_law 13 4294967295).before #[Value.ref b] s = true) (hX : va_X b L xs s s.heap) (hbl : b < s.heap.size) (hL : L ≤ 2560) (hE : cd_EV D (cx_tys dA) s) {σ : cx_S} {μ : cm_S} {ad : Nat → Nat → Nat} {H : Heap} {locs : List Loc} {cells slots i : Nat} {ls : Array Slot} (hi : i + 5 ≤ L) (hfc : cells + 1 ≤ 600000) (hfs : slots + 5 ≤ 7302250) (hW : cx_Wo D dA s.heap.size (wj dA σ μ ad) H) (hS : va_S (cd_A s.heap.size) s.heap H locs) (hl : lv_has ls 4 [(3, .int (nI i)), (2, .ref (ad 9 0)), (1, .ref (ad 0 0)), (0, .ref b)]) (h : Sim (wj dA σ μ ad) (mj dA σ μ ad)) (kk : ∀ (σ : cx_S) (μ : cm_S) (ad : Nat → Nat → Nat) (H : Heap) (locs : List Loc), cx_Wo D dA s.heap.size (wj dA σ μ ad) H → va_S (cd_A s.heap.size) s.heap H locs → lv_has ls 4 [(3, .int (nI i)), (2, .ref (ad 9 0)), (1, .ref (ad 0 0)), (0, .ref b)] → Sim (wj dA σ μ ad) (mj dA σ μ ad) → W p l e room_1 s m #[Value.ref b] below meth c H locs (cells + 1) (slots + 5) Q (F0 m 483 ls [])) : W p l e room_1 s m #[Value.ref b] below meth c H locs cells slots Q (F0 m 147 ls []) := by
  obtain ⟨x1, ex1⟩ : ∃ x, xs (i + 1) = x := ⟨_, rfl⟩
  obtain ⟨x2, ex2⟩ : ∃ x, xs (i + 2) = x := ⟨_, rfl⟩
  obtain ⟨x3, ex3⟩ : ∃ x, xs (i + 3) = x := ⟨_, rfl⟩
  refine lv_aload_n hx hb d_law_147 rfl (lv_at hl 2 rfl) ?_
  refine la_rd hx hb hX hbl hL hS hl rfl rfl 1 (by decide) (by omega) (v := x1) ex1 d_law_148 d_law_149 d_law_150 d_law_151 d_law_152 ?_
  refine la_rdl hx hb hown hc hX hbl hL hS hl rfl rfl 2 3 (by decide) (by decide) (by omega) (by omega) (v := x2) (u := x3) ex2 ex3 d_law_153 d_law_154 d_law_155 d_law_156 d_law_157 d_law_158 d_law_159 d_law_161 d_law_162 d_law_163 d_law_164 d_law_165 d_law_166 d_law_167 d_law_168 d_law_171 d_law_172 ?_
  refine cx_cV (As := [.int x1, .long (la_lj x2 x3)]) (n := 2) (rest := []) ⟨hx, hb, hml, hown, hA⟩ (cd_GA mw_276) hE (Nat.le_refl _) hW hS 0 0 rfl rfl rfl (c_CarDesk_answer l D dA s.heap.size (wj dA σ μ ad) x1 (la_lj x2 x3)) mw_277 mw_278 mw_279 mw_32 ⟨by decide, by decide, by decide +kernel⟩ rfl rfl ⟨by decide, by decide⟩ rfl hl.1 rfl (by decide) d_law_173 ⟨show cells + 0 ≤ 600000 by omega, show slots + 0 ≤ 7302250 by omega⟩ (fun H locs hW hS => ?_)
  have hW := br_m (k_answer (wj dA σ μ ad) x1 (la_lj x2 x3)) hW
  have h : Sim (wj dA σ μ ad) (mj dA ((f_CarDesk_answer (wj dA σ μ ad) x1 (la_lj x2 x3)).2.1) μ ad) := h
  show W p l e room_1 s m #[Value.ref b] below meth c H locs _ _ Q (F0 m 176 ls [.int (f_CarDesk_answer (wj dA σ μ ad) x1 (la_lj x2 x3)).1])
  refine lv_aload_n hx hb d_law_176 rfl (lv_at hl 1 rfl) ?_
  refine la_rd hx hb hX hbl hL hS hl rfl rfl 1 (by decide) (by omega) (v := x1) ex1 d_law_177 d_law_178 d_law_179 d_law_180 d_law_181 ?_
  refine la_rdl hx hb hown hc hX hbl hL hS hl rfl rfl 2 3 (by decide) (by decide) (by omega) (by omega) (v := x2) (u := x3) ex2 ex3 d_law_182 d_law_183 d_law_184 d_law_185 d_law_186 d_law_187 d_law_188 d_law_190 d_law_191 d_law_192 d_law_193 d_law_194 d_law_195 d_law_196 d_law_197 d_law_200 d_law_201 ?_
  refine cm_cV (As := [.int x1, .long (la_lj x2 x3)]) (n := 2) (rest := [.int (f_CarDesk_answer (wj dA σ μ ad) x1 (la_lj x2 x3)).1]) ⟨hx, hb, hml, hown, hA⟩ (cd_GA mw_280) hE (Nat.le_refl _) hW hS 9 0 rfl rfl rfl (c_Model_answer l D dA s.heap.size (mj dA ((f_CarDesk_answer (wj dA σ μ ad) x1 (la_lj x2 x3)).2.1) μ ad) x1 (la_lj x2 x3)) mw_281 mw_282 mw_283 mw_174 ⟨by decide, by decide, by decide +kernel⟩ rfl rfl ⟨by decide, by decide⟩ rfl hl.1 rfl (Nat.le_of_ble_eq_true rfl) d_law_202 ⟨show cells + 0 + 0 ≤ 600000 by omega, show slots + 0 + 0 ≤ 7302250 by omega⟩ (fun H locs hW hS => ?_)
  obtain ⟨es, h⟩ := sim_answer h x1 (la_lj x2 x3)
  have hW := br_x (σ := ((f_CarDesk_answer (wj dA σ μ ad) x1 (la_lj x2 x3)).2.1)) (km_answer (mj dA ((f_CarDesk_answer (wj dA σ μ ad) x1 (la_lj x2 x3)).2.1) μ ad) x1 (la_lj x2 x3)) hW
  refine lv_icmp_eq (tgt := 483) hx hb d_law_205 (by decide) (fun _ => ?_) (fun q => absurd es q)
  refine W.widen (k := cells + 1) (n := slots + 5) (by omega) (by omega) ?_
  exact kk _ _ _ _ _ hW hS hl h
set_option maxHeartbeats 2000000 in
set_option maxRecDepth 100000 in
theorem la_fails {p : Program} {e : Env} {s : State} {m : MethodId} {below : List Frame} {meth : Method} {c : Code} {l : Launch} {b L : Nat} {xs : Nat → Int32} {D : va_G} {dA : Nat → ClassId} {Q : State → Prop} (hx : p.tables.exec = Jvm.exec) (hb : c.code = code) (hml : c.maxLocals = 4) (hown : s.vm.findClass R_law = some m.cls) (hA : ∀ w ∈ cd_WA, w.before #[Value.ref b] s = true) (hc : (Jvm.Cond.constantLong R_law 13 4294967295).before #[Value.ref b] s = true) (hX : va_X b L xs s s.heap) (hbl : b < s.heap.size) (hL : L ≤ 2560) (hE : cd_EV D (cx_tys dA) s) {σ : cx_S} {μ : cm_S} {ad : Nat → Nat → Nat} {H : Heap} {locs : List Loc} {cells slots i : Nat} {ls : Array Slot} (hi : i + 5 ≤ L) (hfc : cells + 1 ≤ 600000) (hfs : slots + 5 ≤ 7302250) (hW : cx_Wo D dA s.heap.size (wj dA σ μ ad) H) (hS : va_S (cd_A s.heap.size) s.heap H locs) (hl : lv_has ls 4 [(3, .int (nI i)), (2, .ref (ad 9 0)), (1, .ref (ad 0 0)), (0, .ref b)]) (h : Sim (wj dA σ μ ad) (mj dA σ μ ad)) (kk : ∀ (σ : cx_S) (μ : cm_S) (ad : Nat → Nat → Nat) (H : Heap) (locs : List Loc), cx_Wo D dA s.heap.size (wj dA σ μ ad) H → va_S (cd_A s.heap.size) s.heap H locs → lv_has ls 4 [(3, .int (nI i)), (2, .ref (ad 9 0)), (1, .ref (ad 0 0)), (0, .ref b)] → Sim (wj dA σ μ ad) (mj dA σ μ ad) → W p l e room_1 s m #[Value.ref b] below meth c H locs (cells + 1) (slots + 5) Q (F0 m 483 ls [])) : W p l e room_1 s m #[Value.ref b] below meth c H locs cells slots Q (F0 m 210 ls []) := by
  obtain ⟨x1, ex1⟩ : ∃ x, xs (i + 1) = x := ⟨_, rfl⟩
  obtain ⟨x2, ex2⟩ : ∃ x, xs (i + 2) = x := ⟨_, rfl⟩
  refine lv_aload_n hx hb d_law_210 rfl (lv_at hl 2 rfl) ?_
  refine la_rd hx hb hX hbl hL hS hl rfl rfl 1 (by decide) (by omega) (v := x1) ex1 d_law_211 d_law_212 d_law_213 d_law_214 d_law_215 ?_
  refine la_rd hx hb hX hbl hL hS hl rfl rfl 2 (by decide) (by omega) (v := x2) ex2 d_law_216 d_law_217 d_law_218 d_law_219 d_law_220 ?_
  refine cx_cV (As := [.int x1, .int x2]) (n := 2) (rest := []) ⟨hx, hb, hml, hown, hA⟩ (cd_GA mw_284) hE (Nat.le_refl _) hW hS 0 0 rfl rfl rfl (c_CarDesk_fails l D dA s.heap.size (wj dA σ μ ad) x1 x2) mw_285 mw_286 mw_287 mw_32 ⟨by decide, by decide, by decide +kernel⟩ rfl rfl ⟨by decide, by decide⟩ rfl hl.1 rfl (by decide) d_law_221 ⟨show cells + 0 ≤ 600000 by omega, show slots + 0 ≤ 7302250 by omega⟩ (fun H locs hW hS => ?_)
  have hW := br_m (k_fails (wj dA σ μ ad) x1 x2) hW
  have h : Sim (wj dA σ μ ad) (mj dA ((f_CarDesk_fails (wj dA σ μ ad) x1 x2).2.1) μ ad) := h
  show W p l e room_1 s m #[Value.ref b] below meth c H locs _ _ Q (F0 m 224 ls [.int (f_CarDesk_fails (wj dA σ μ ad) x1 x2).1])
  refine lv_aload_n hx hb d_law_224 rfl (lv_at hl 1 rfl) ?_
  refine la_rd hx hb hX hbl hL hS hl rfl rfl 1 (by decide) (by omega) (v := x1) ex1 d_law_225 d_law_226 d_law_227 d_law_228 d_law_229 ?_
  refine la_rd hx hb hX hbl hL hS hl rfl rfl 2 (by decide) (by omega) (v := x2) ex2 d_law_230 d_law_231 d_law_232 d_law_233 d_law_234 ?_
  refine cm_cV (As := [.int x1, .int x2]) (n := 2) (rest := [.int (f_CarDesk_fails (wj dA σ μ ad) x1 x2).1]) ⟨hx, hb, hml, hown, hA⟩ (cd_GA mw_288) hE (Nat.le_refl _) hW hS 9 0 rfl rfl rfl (c_Model_fails l D dA s.heap.size (mj dA ((f_CarDesk_fails (wj dA σ μ ad) x1 x2).2.1) μ ad) x1 x2) mw_289 mw_290 mw_291 mw_174 ⟨by decide, by decide, by decide +kernel⟩ rfl rfl ⟨by decide, by decide⟩ rfl hl.1 rfl (Nat.le_of_ble_eq_true rfl) d_law_235 ⟨show cells + 0 + 0 ≤ 600000 by omega, show slots + 0 + 0 ≤ 7302250 by omega⟩ (fun H locs hW hS => ?_)
  obtain ⟨es, h⟩ := sim_fails h x1 x2
  have hW := br_x (σ := ((f_CarDesk_fails (wj dA σ μ ad) x1 x2).2.1)) (km_fails (mj dA ((f_CarDesk_fails (wj dA σ μ ad) x1 x2).2.1) μ ad) x1 x2) hW
  refine lv_icmp_eq (tgt := 483) hx hb d_law_238 (by decide) (fun _ => ?_) (fun q => absurd es q)
  refine W.widen (k := cells + 1) (n := slots + 5) (by omega) (by omega) ?_
  exact kk _ _ _ _ _ hW hS hl h
set_option maxHeartbeats 2000000 in
set_option maxRecDepth 100000 in
theorem la_make {p : Program} {e : Env} {s : State} {m : MethodId} {below : List Frame} {meth : Method} {c : Code} {l : Launch} {b L : Nat} {xs : Nat → Int32} {D : va_G} {dA : Nat → ClassId} {Q : State → Prop} (hx : p.tables.exec = Jvm.exec) (hb : c.code = code) (hml : c.maxLocals = 4) (hown : s.vm.findClass R_law = some m.cls) (hA : ∀ w ∈ cd_WA, w.before #[Value.ref b] s = true) (hc : (Jvm.Cond.constantLong R_law 13 4294967295).before #[Value.ref b] s = true) (hX : va_X b L xs s s.heap) (hbl : b < s.heap.size) (hL : L ≤ 2560) (hE : cd_EV D (cx_tys dA) s) {σ : cx_S} {μ : cm_S} {ad : Nat → Nat → Nat} {H : Heap} {locs : List Loc} {cells slots i : Nat} {ls : Array Slot} (hi : i + 5 ≤ L) (hfc : cells + 1 ≤ 600000) (hfs : slots + 5 ≤ 7302250) (hW : cx_Wo D dA s.heap.size (wj dA σ μ ad) H) (hS : va_S (cd_A s.heap.size) s.heap H locs) (hl : lv_has ls 4 [(3, .int (nI i)), (2, .ref (ad 9 0)), (1, .ref (ad 0 0)), (0, .ref b)]) (h : Sim (wj dA σ μ ad) (mj dA σ μ ad)) (kk : ∀ (σ : cx_S) (μ : cm_S) (ad : Nat → Nat → Nat) (H : Heap) (locs : List Loc), cx_Wo D dA s.heap.size (wj dA σ μ ad) H → va_S (cd_A s.heap.size) s.heap H locs → lv_has ls 4 [(3, .int (nI i)), (2, .ref (ad 9 0)), (1, .ref (ad 0 0)), (0, .ref b)] → Sim (wj dA σ μ ad) (mj dA σ μ ad) → W p l e room_1 s m #[Value.ref b] below meth c H locs (cells + 1) (slots + 5) Q (F0 m 483 ls [])) : W p l e room_1 s m #[Value.ref b] below meth c H locs cells slots Q (F0 m 243 ls []) := by
  obtain ⟨x1, ex1⟩ : ∃ x, xs (i + 1) = x := ⟨_, rfl⟩
  refine lv_aload_n hx hb d_law_243 rfl (lv_at hl 2 rfl) ?_
  refine la_rd hx hb hX hbl hL hS hl rfl rfl 1 (by decide) (by omega) (v := x1) ex1 d_law_244 d_law_245 d_law_246 d_law_247 d_law_248 ?_
  refine cd_cV (As := [.int x1]) (n := 1) (rest := []) ⟨hx, hb, hml, hown, hA⟩ (cd_GA mw_292) hE (Nat.le_refl _) hW hS 0 0 rfl rfl rfl (c_CarDesk_make l D dA s.heap.size (wj dA σ μ ad) x1 h.Iv h.Ia) mw_293 mw_294 mw_295 mw_32 ⟨by decide, by decide, by decide +kernel⟩ rfl rfl ⟨by decide, by decide⟩ rfl hl.1 rfl (by decide) d_law_249 ⟨show cells + 1 ≤ 600000 by omega, show slots + 5 ≤ 7302250 by omega⟩ (fun v dm1 ad1 ce1 H locs hQ hW hS => ?_)
  obtain ⟨q, rfl, rfl, rfl, rfl⟩ := hQ
  obtain ⟨ad', ea, eb⟩ := k_make (wj dA σ μ ad) x1 q
  have ea : (f_CarDesk_make (wj dA σ μ ad) x1 q).2.2 = (ad', drM, crM dA μ ad') := ea.trans (by rw [crM_ad (fun b => eb 10 b (by decide))])
  have hW := br_m ea hW
  have hl : lv_has ls 4 [(3, .int (nI i)), (2, .ref (ad' 9 0)), (1, .ref (ad' 0 0)), (0, .ref b)] := by rw [eb 9 0 (by decide), eb 0 0 (by decide)]; exact hl
  have h : Sim (wj dA σ μ ad) (mj dA ((f_CarDesk_make (wj dA σ μ ad) x1 q).2.1) μ ad') := h
  show W p l e room_1 s m #[Value.ref b] below meth c H locs _ _ Q (F0 m 252 ls [.int (f_CarDesk_make (wj dA σ μ ad) x1 q).1])
  refine lv_aload_n hx hb d_law_252 rfl (lv_at hl 1 rfl) ?_
  refine la_rd hx hb hX hbl hL hS hl rfl rfl 1 (by decide) (by omega) (v := x1) ex1 d_law_253 d_law_254 d_law_255 d_law_256 d_law_257 ?_
  by_cases hk : vp_in x1 6
  · obtain ⟨j, hj, rfl⟩ := vp_in_of hk (by decide)
    rcases (show j = 0 ∨ j = 1 ∨ j = 2 ∨ j = 3 ∨ j = 4 ∨ j = 5 by omega) with rfl | rfl | rfl | rfl | rfl | rfl
    · skip
      refine cm_cV (As := [.int (nI 0)]) (n := 1) (rest := [.int (f_CarDesk_make (wj dA σ μ ad) (nI 0) q).1]) ⟨hx, hb, hml, hown, hA⟩ (cd_GA mw_296) hE (Nat.le_refl _) hW hS 9 0 rfl rfl rfl (c_Model_make0 l D dA s.heap.size (mj dA ((f_CarDesk_make (wj dA σ μ ad) (nI 0) q).2.1) μ ad') h.co h.ma) mw_297 mw_298 mw_299 mw_174 ⟨by decide, by decide, by decide +kernel⟩ rfl rfl ⟨by decide, by decide⟩ rfl hl.1 rfl (Nat.le_of_ble_eq_true rfl) d_law_258 ⟨show cells + 1 + 0 ≤ 600000 by omega, show slots + 5 + 0 ≤ 7302250 by omega⟩ (fun H locs hW hS => ?_)
      obtain ⟨es, h⟩ := sim_make0 h q
      have hW := br_x (σ := ((f_CarDesk_make (wj dA σ μ ad) (nI 0) q).2.1)) (km_make0 (mj dA ((f_CarDesk_make (wj dA σ μ ad) (nI 0) q).2.1) μ ad')) hW
      refine lv_icmp_eq (tgt := 483) hx hb d_law_261 (by decide) (fun _ => ?_) (fun q => absurd es q)
      refine W.widen (k := cells + 1) (n := slots + 5) (by omega) (by omega) ?_
      exact kk _ _ _ _ _ hW hS hl h
    · skip
      refine cm_cV (As := [.int (nI 1)]) (n := 1) (rest := [.int (f_CarDesk_make (wj dA σ μ ad) (nI 1) q).1]) ⟨hx, hb, hml, hown, hA⟩ (cd_GA mw_296) hE (Nat.le_refl _) hW hS 9 0 rfl rfl rfl (c_Model_make1 l D dA s.heap.size (mj dA ((f_CarDesk_make (wj dA σ μ ad) (nI 1) q).2.1) μ ad') h.co h.ma) mw_297 mw_298 mw_299 mw_174 ⟨by decide, by decide, by decide +kernel⟩ rfl rfl ⟨by decide, by decide⟩ rfl hl.1 rfl (Nat.le_of_ble_eq_true rfl) d_law_258 ⟨show cells + 1 + 0 ≤ 600000 by omega, show slots + 5 + 0 ≤ 7302250 by omega⟩ (fun H locs hW hS => ?_)
      obtain ⟨es, h⟩ := sim_make1 h q
      have hW := br_x (σ := ((f_CarDesk_make (wj dA σ μ ad) (nI 1) q).2.1)) (km_make1 (mj dA ((f_CarDesk_make (wj dA σ μ ad) (nI 1) q).2.1) μ ad')) hW
      refine lv_icmp_eq (tgt := 483) hx hb d_law_261 (by decide) (fun _ => ?_) (fun q => absurd es q)
      refine W.widen (k := cells + 1) (n := slots + 5) (by omega) (by omega) ?_
      exact kk _ _ _ _ _ hW hS hl h
    · skip
      refine cm_cV (As := [.int (nI 2)]) (n := 1) (rest := [.int (f_CarDesk_make (wj dA σ μ ad) (nI 2) q).1]) ⟨hx, hb, hml, hown, hA⟩ (cd_GA mw_296) hE (Nat.le_refl _) hW hS 9 0 rfl rfl rfl (c_Model_make2 l D dA s.heap.size (mj dA ((f_CarDesk_make (wj dA σ μ ad) (nI 2) q).2.1) μ ad') h.co h.ma) mw_297 mw_298 mw_299 mw_174 ⟨by decide, by decide, by decide +kernel⟩ rfl rfl ⟨by decide, by decide⟩ rfl hl.1 rfl (Nat.le_of_ble_eq_true rfl) d_law_258 ⟨show cells + 1 + 0 ≤ 600000 by omega, show slots + 5 + 0 ≤ 7302250 by omega⟩ (fun H locs hW hS => ?_)
      obtain ⟨es, h⟩ := sim_make2 h q
      have hW := br_x (σ := ((f_CarDesk_make (wj dA σ μ ad) (nI 2) q).2.1)) (km_make2 (mj dA ((f_CarDesk_make (wj dA σ μ ad) (nI 2) q).2.1) μ ad')) hW
      refine lv_icmp_eq (tgt := 483) hx hb d_law_261 (by decide) (fun _ => ?_) (fun q => absurd es q)
      refine W.widen (k := cells + 1) (n := slots + 5) (by omega) (by omega) ?_
      exact kk _ _ _ _ _ hW hS hl h
    · skip
      refine cm_cV (As := [.int (nI 3)]) (n := 1) (rest := [.int (f_CarDesk_make (wj dA σ μ ad) (nI 3) q).1]) ⟨hx, hb, hml, hown, hA⟩ (cd_GA mw_296) hE (Nat.le_refl _) hW hS 9 0 rfl rfl rfl (c_Model_make3 l D dA s.heap.size (mj dA ((f_CarDesk_make (wj dA σ μ ad) (nI 3) q).2.1) μ ad') h.co h.ma) mw_297 mw_298 mw_299 mw_174 ⟨by decide, by decide, by decide +kernel⟩ rfl rfl ⟨by decide, by decide⟩ rfl hl.1 rfl (Nat.le_of_ble_eq_true rfl) d_law_258 ⟨show cells + 1 + 0 ≤ 600000 by omega, show slots + 5 + 0 ≤ 7302250 by omega⟩ (fun H locs hW hS => ?_)
      obtain ⟨es, h⟩ := sim_make3 h q
      have hW := br_x (σ := ((f_CarDesk_make (wj dA σ μ ad) (nI 3) q).2.1)) (km_make3 (mj dA ((f_CarDesk_make (wj dA σ μ ad) (nI 3) q).2.1) μ ad')) hW
      refine lv_icmp_eq (tgt := 483) hx hb d_law_261 (by decide) (fun _ => ?_) (fun q => absurd es q)
      refine W.widen (k := cells + 1) (n := slots + 5) (by omega) (by omega) ?_
      exact kk _ _ _ _ _ hW hS hl h
    · skip
      refine cm_cV (As := [.int (nI 4)]) (n := 1) (rest := [.int (f_CarDesk_make (wj dA σ μ ad) (nI 4) q).1]) ⟨hx, hb, hml, hown, hA⟩ (cd_GA mw_296) hE (Nat.le_refl _) hW hS 9 0 rfl rfl rfl (c_Model_make4 l D dA s.heap.size (mj dA ((f_CarDesk_make (wj dA σ μ ad) (nI 4) q).2.1) μ ad') h.co h.ma) mw_297 mw_298 mw_299 mw_174 ⟨by decide, by decide, by decide +kernel⟩ rfl rfl ⟨by decide, by decide⟩ rfl hl.1 rfl (Nat.le_of_ble_eq_true rfl) d_law_258 ⟨show cells + 1 + 0 ≤ 600000 by omega, show slots + 5 + 0 ≤ 7302250 by omega⟩ (fun H locs hW hS => ?_)
      obtain ⟨es, h⟩ := sim_make4 h q
      have hW := br_x (σ := ((f_CarDesk_make (wj dA σ μ ad) (nI 4) q).2.1)) (km_make4 (mj dA ((f_CarDesk_make (wj dA σ μ ad) (nI 4) q).2.1) μ ad')) hW
      refine lv_icmp_eq (tgt := 483) hx hb d_law_261 (by decide) (fun _ => ?_) (fun q => absurd es q)
      refine W.widen (k := cells + 1) (n := slots + 5) (by omega) (by omega) ?_
      exact kk _ _ _ _ _ hW hS hl h
    · skip
      refine cm_cV (As := [.int (nI 5)]) (n := 1) (rest := [.int (f_CarDesk_make (wj dA σ μ ad) (nI 5) q).1]) ⟨hx, hb, hml, hown, hA⟩ (cd_GA mw_296) hE (Nat.le_refl _) hW hS 9 0 rfl rfl rfl (c_Model_make5 l D dA s.heap.size (mj dA ((f_CarDesk_make (wj dA σ μ ad) (nI 5) q).2.1) μ ad') h.co h.ma) mw_297 mw_298 mw_299 mw_174 ⟨by decide, by decide, by decide +kernel⟩ rfl rfl ⟨by decide, by decide⟩ rfl hl.1 rfl (Nat.le_of_ble_eq_true rfl) d_law_258 ⟨show cells + 1 + 0 ≤ 600000 by omega, show slots + 5 + 0 ≤ 7302250 by omega⟩ (fun H locs hW hS => ?_)
      obtain ⟨es, h⟩ := sim_make5 h q
      have hW := br_x (σ := ((f_CarDesk_make (wj dA σ μ ad) (nI 5) q).2.1)) (km_make5 (mj dA ((f_CarDesk_make (wj dA σ μ ad) (nI 5) q).2.1) μ ad')) hW
      refine lv_icmp_eq (tgt := 483) hx hb d_law_261 (by decide) (fun _ => ?_) (fun q => absurd es q)
      refine W.widen (k := cells + 1) (n := slots + 5) (by omega) (by omega) ?_
      exact kk _ _ _ _ _ hW hS hl h
  · skip
    refine cm_cV (As := [.int x1]) (n := 1) (rest := [.int (f_CarDesk_make (wj dA σ μ ad) x1 q).1]) ⟨hx, hb, hml, hown, hA⟩ (cd_GA mw_296) hE (Nat.le_refl _) hW hS 9 0 rfl rfl rfl (c_Model_makeR l D dA s.heap.size (mj dA ((f_CarDesk_make (wj dA σ μ ad) x1 q).2.1) μ ad') x1 hk) mw_297 mw_298 mw_299 mw_174 ⟨by decide, by decide, by decide +kernel⟩ rfl rfl ⟨by decide, by decide⟩ rfl hl.1 rfl (Nat.le_of_ble_eq_true rfl) d_law_258 ⟨show cells + 1 + 0 ≤ 600000 by omega, show slots + 5 + 0 ≤ 7302250 by omega⟩ (fun H locs hW hS => ?_)
    obtain ⟨es, h⟩ := sim_makeR h hk q
    have hW := br_x (σ := ((f_CarDesk_make (wj dA σ μ ad) x1 q).2.1)) (km_makeR (mj dA ((f_CarDesk_make (wj dA σ μ ad) x1 q).2.1) μ ad') x1) hW
    refine lv_icmp_eq (tgt := 483) hx hb d_law_261 (by decide) (fun _ => ?_) (fun q => absurd es q)
    refine W.widen (k := cells + 1) (n := slots + 5) (by omega) (by omega) ?_
    exact kk _ _ _ _ _ hW hS hl h
set_option maxHeartbeats 2000000 in
set_option maxRecDepth 100000 in
theorem la_call {p : Program} {e : Env} {s : State} {m : MethodId} {below : List Frame} {meth : Method} {c : Code} {l : Launch} {b L : Nat} {xs : Nat → Int32} {D : va_G} {dA : Nat → ClassId} {Q : State → Prop} (hx : p.tables.exec = Jvm.exec) (hb : c.code = code) (hml : c.maxLocals = 4) (hown : s.vm.findClass R_law = some m.cls) (hA : ∀ w ∈ cd_WA, w.before #[Value.ref b] s = true) (hc : (Jvm.Cond.constantLong R_law 13 4294967295).before #[Value.ref b] s = true) (hX : va_X b L xs s s.heap) (hbl : b < s.heap.size) (hL : L ≤ 2560) (hE : cd_EV D (cx_tys dA) s) {σ : cx_S} {μ : cm_S} {ad : Nat → Nat → Nat} {H : Heap} {locs : List Loc} {cells slots i : Nat} {ls : Array Slot} (hi : i + 5 ≤ L) (hfc : cells + 1 ≤ 600000) (hfs : slots + 5 ≤ 7302250) (hW : cx_Wo D dA s.heap.size (wj dA σ μ ad) H) (hS : va_S (cd_A s.heap.size) s.heap H locs) (hl : lv_has ls 4 [(3, .int (nI i)), (2, .ref (ad 9 0)), (1, .ref (ad 0 0)), (0, .ref b)]) (h : Sim (wj dA σ μ ad) (mj dA σ μ ad)) (kk : ∀ (σ : cx_S) (μ : cm_S) (ad : Nat → Nat → Nat) (H : Heap) (locs : List Loc), cx_Wo D dA s.heap.size (wj dA σ μ ad) H → va_S (cd_A s.heap.size) s.heap H locs → lv_has ls 4 [(3, .int (nI i)), (2, .ref (ad 9 0)), (1, .ref (ad 0 0)), (0, .ref b)] → Sim (wj dA σ μ ad) (mj dA σ μ ad) → W p l e room_1 s m #[Value.ref b] below meth c H locs (cells + 1) (slots + 5) Q (F0 m 483 ls [])) : W p l e room_1 s m #[Value.ref b] below meth c H locs cells slots Q (F0 m 266 ls []) := by
  obtain ⟨x1, ex1⟩ : ∃ x, xs (i + 1) = x := ⟨_, rfl⟩
  obtain ⟨x2, ex2⟩ : ∃ x, xs (i + 2) = x := ⟨_, rfl⟩
  obtain ⟨x3, ex3⟩ : ∃ x, xs (i + 3) = x := ⟨_, rfl⟩
  obtain ⟨x4, ex4⟩ : ∃ x, xs (i + 4) = x := ⟨_, rfl⟩
  refine lv_aload_n hx hb d_law_266 rfl (lv_at hl 2 rfl) ?_
  refine la_rd hx hb hX hbl hL hS hl rfl rfl 1 (by decide) (by omega) (v := x1) ex1 d_law_267 d_law_268 d_law_269 d_law_270 d_law_271 ?_
  refine la_rd hx hb hX hbl hL hS hl rfl rfl 2 (by decide) (by omega) (v := x2) ex2 d_law_272 d_law_273 d_law_274 d_law_275 d_law_276 ?_
  refine la_rdl hx hb hown hc hX hbl hL hS hl rfl rfl 3 4 (by decide) (by decide) (by omega) (by omega) (v := x3) (u := x4) ex3 ex4 d_law_277 d_law_278 d_law_279 d_law_280 d_law_281 d_law_282 d_law_283 d_law_285 d_law_286 d_law_287 d_law_288 d_law_289 d_law_290 d_law_291 d_law_292 d_law_295 d_law_296 ?_
  refine cx_cV (As := [.int x1, .int x2, .long (la_lj x3 x4)]) (n := 3) (rest := []) ⟨hx, hb, hml, hown, hA⟩ (cd_GA mw_300) hE (Nat.le_refl _) hW hS 0 0 rfl rfl rfl (c_CarDesk_call l D dA s.heap.size (wj dA σ μ ad) x1 x2 (la_lj x3 x4) h.Iv) mw_301 mw_302 mw_303 mw_32 ⟨by decide, by decide, by decide +kernel⟩ rfl rfl ⟨by decide, by decide⟩ rfl hl.1 rfl (by decide) d_law_297 ⟨show cells + 0 ≤ 600000 by omega, show slots + 0 ≤ 7302250 by omega⟩ (fun H locs hW hS => ?_)
  have hW := br_m (k_call (wj dA σ μ ad) x1 x2 (la_lj x3 x4)) hW
  have h : Sim (wj dA σ μ ad) (mj dA ((f_CarDesk_call (wj dA σ μ ad) x1 x2 (la_lj x3 x4)).2.1) μ ad) := h
  show W p l e room_1 s m #[Value.ref b] below meth c H locs _ _ Q (F0 m 300 ls [.long (f_CarDesk_call (wj dA σ μ ad) x1 x2 (la_lj x3 x4)).1])
  refine lv_aload_n hx hb d_law_300 rfl (lv_at hl 1 rfl) ?_
  refine la_rd hx hb hX hbl hL hS hl rfl rfl 1 (by decide) (by omega) (v := x1) ex1 d_law_301 d_law_302 d_law_303 d_law_304 d_law_305 ?_
  refine la_rd hx hb hX hbl hL hS hl rfl rfl 2 (by decide) (by omega) (v := x2) ex2 d_law_306 d_law_307 d_law_308 d_law_309 d_law_310 ?_
  refine la_rdl hx hb hown hc hX hbl hL hS hl rfl rfl 3 4 (by decide) (by decide) (by omega) (by omega) (v := x3) (u := x4) ex3 ex4 d_law_311 d_law_312 d_law_313 d_law_314 d_law_315 d_law_316 d_law_317 d_law_319 d_law_320 d_law_321 d_law_322 d_law_323 d_law_324 d_law_325 d_law_326 d_law_329 d_law_330 ?_
  refine cm_cV (As := [.int x1, .int x2, .long (la_lj x3 x4)]) (n := 3) (rest := [.long (f_CarDesk_call (wj dA σ μ ad) x1 x2 (la_lj x3 x4)).1]) ⟨hx, hb, hml, hown, hA⟩ (cd_GA mw_304) hE (Nat.le_refl _) hW hS 9 0 rfl rfl rfl (c_Model_call l D dA s.heap.size (mj dA ((f_CarDesk_call (wj dA σ μ ad) x1 x2 (la_lj x3 x4)).2.1) μ ad) x1 x2 (la_lj x3 x4) (sim_hof h _ _ _)) mw_305 mw_306 mw_307 mw_174 ⟨by decide, by decide, by decide +kernel⟩ rfl rfl ⟨by decide, by decide⟩ rfl hl.1 rfl (Nat.le_of_ble_eq_true rfl) d_law_331 ⟨show cells + 0 + 0 ≤ 600000 by omega, show slots + 0 + 0 ≤ 7302250 by omega⟩ (fun H locs hW hS => ?_)
  obtain ⟨es, h⟩ := sim_call h x1 x2 (la_lj x3 x4)
  have hW := br_x (σ := ((f_CarDesk_call (wj dA σ μ ad) x1 x2 (la_lj x3 x4)).2.1)) (km_call (mj dA ((f_CarDesk_call (wj dA σ μ ad) x1 x2 (la_lj x3 x4)).2.1) μ ad) x1 x2 (la_lj x3 x4)) hW
  refine cd_lc_eq (tgt := 483) hx hb d_law_334 d_law_335 (by decide) (fun _ => ?_) (fun q => absurd es q)
  refine W.widen (k := cells + 1) (n := slots + 5) (by omega) (by omega) ?_
  exact kk _ _ _ _ _ hW hS hl h
set_option maxHeartbeats 2000000 in
set_option maxRecDepth 100000 in
theorem la_told {p : Program} {e : Env} {s : State} {m : MethodId} {below : List Frame} {meth : Method} {c : Code} {l : Launch} {b L : Nat} {xs : Nat → Int32} {D : va_G} {dA : Nat → ClassId} {Q : State → Prop} (hx : p.tables.exec = Jvm.exec) (hb : c.code = code) (hml : c.maxLocals = 4) (hown : s.vm.findClass R_law = some m.cls) (hA : ∀ w ∈ cd_WA, w.before #[Value.ref b] s = true) (hc : (Jvm.Cond.constantLong R_law 13 4294967295).before #[Value.ref b] s = true) (hX : va_X b L xs s s.heap) (hbl : b < s.heap.size) (hL : L ≤ 2560) (hE : cd_EV D (cx_tys dA) s) {σ : cx_S} {μ : cm_S} {ad : Nat → Nat → Nat} {H : Heap} {locs : List Loc} {cells slots i : Nat} {ls : Array Slot} (hi : i + 5 ≤ L) (hfc : cells + 1 ≤ 600000) (hfs : slots + 5 ≤ 7302250) (hW : cx_Wo D dA s.heap.size (wj dA σ μ ad) H) (hS : va_S (cd_A s.heap.size) s.heap H locs) (hl : lv_has ls 4 [(3, .int (nI i)), (2, .ref (ad 9 0)), (1, .ref (ad 0 0)), (0, .ref b)]) (h : Sim (wj dA σ μ ad) (mj dA σ μ ad)) (kk : ∀ (σ : cx_S) (μ : cm_S) (ad : Nat → Nat → Nat) (H : Heap) (locs : List Loc), cx_Wo D dA s.heap.size (wj dA σ μ ad) H → va_S (cd_A s.heap.size) s.heap H locs → lv_has ls 4 [(3, .int (nI i)), (2, .ref (ad 9 0)), (1, .ref (ad 0 0)), (0, .ref b)] → Sim (wj dA σ μ ad) (mj dA σ μ ad) → W p l e room_1 s m #[Value.ref b] below meth c H locs (cells + 1) (slots + 5) Q (F0 m 483 ls [])) : W p l e room_1 s m #[Value.ref b] below meth c H locs cells slots Q (F0 m 340 ls []) := by
  obtain ⟨x1, ex1⟩ : ∃ x, xs (i + 1) = x := ⟨_, rfl⟩
  refine lv_aload_n hx hb d_law_340 rfl (lv_at hl 2 rfl) ?_
  refine la_rd hx hb hX hbl hL hS hl rfl rfl 1 (by decide) (by omega) (v := x1) ex1 d_law_341 d_law_342 d_law_343 d_law_344 d_law_345 ?_
  refine cx_cV (As := [.int x1]) (n := 1) (rest := []) ⟨hx, hb, hml, hown, hA⟩ (cd_GA mw_308) hE (Nat.le_refl _) hW hS 0 0 rfl rfl rfl (c_CarDesk_told l D dA s.heap.size (wj dA σ μ ad) x1) mw_309 mw_310 mw_311 mw_32 ⟨by decide, by decide, by decide +kernel⟩ rfl rfl ⟨by decide, by decide⟩ rfl hl.1 rfl (by decide) d_law_346 ⟨show cells + 0 ≤ 600000 by omega, show slots + 0 ≤ 7302250 by omega⟩ (fun H locs hW hS => ?_)
  have hW := br_m0 hW
  have h : Sim (wj dA σ μ ad) (mj dA σ μ ad) := h
  show W p l e room_1 s m #[Value.ref b] below meth c H locs _ _ Q (F0 m 349 ls [.int (f_CarDesk_told (wj dA σ μ ad) x1)])
  refine lv_aload_n hx hb d_law_349 rfl (lv_at hl 1 rfl) ?_
  refine la_rd hx hb hX hbl hL hS hl rfl rfl 1 (by decide) (by omega) (v := x1) ex1 d_law_350 d_law_351 d_law_352 d_law_353 d_law_354 ?_
  refine cm_cV (As := [.int x1]) (n := 1) (rest := [.int (f_CarDesk_told (wj dA σ μ ad) x1)]) ⟨hx, hb, hml, hown, hA⟩ (cd_GA mw_312) hE (Nat.le_refl _) hW hS 9 0 rfl rfl rfl (c_Model_told l D dA s.heap.size (mj dA σ μ ad) x1) mw_313 mw_314 mw_315 mw_174 ⟨by decide, by decide, by decide +kernel⟩ rfl rfl ⟨by decide, by decide⟩ rfl hl.1 rfl (Nat.le_of_ble_eq_true rfl) d_law_355 ⟨show cells + 0 + 0 ≤ 600000 by omega, show slots + 0 + 0 ≤ 7302250 by omega⟩ (fun H locs hW hS => ?_)
  obtain ⟨es, h⟩ := sim_told h x1
  have hW := br_x (σ := σ) (km_told (mj dA σ μ ad) x1) hW
  refine lv_icmp_eq (tgt := 483) hx hb d_law_358 (by decide) (fun _ => ?_) (fun q => absurd es q)
  refine W.widen (k := cells + 1) (n := slots + 5) (by omega) (by omega) ?_
  exact kk _ _ _ _ _ hW hS hl h
set_option maxHeartbeats 2000000 in
set_option maxRecDepth 100000 in
theorem la_drop {p : Program} {e : Env} {s : State} {m : MethodId} {below : List Frame} {meth : Method} {c : Code} {l : Launch} {b L : Nat} {xs : Nat → Int32} {D : va_G} {dA : Nat → ClassId} {Q : State → Prop} (hx : p.tables.exec = Jvm.exec) (hb : c.code = code) (hml : c.maxLocals = 4) (hown : s.vm.findClass R_law = some m.cls) (hA : ∀ w ∈ cd_WA, w.before #[Value.ref b] s = true) (hc : (Jvm.Cond.constantLong R_law 13 4294967295).before #[Value.ref b] s = true) (hX : va_X b L xs s s.heap) (hbl : b < s.heap.size) (hL : L ≤ 2560) (hE : cd_EV D (cx_tys dA) s) {σ : cx_S} {μ : cm_S} {ad : Nat → Nat → Nat} {H : Heap} {locs : List Loc} {cells slots i : Nat} {ls : Array Slot} (hi : i + 5 ≤ L) (hfc : cells + 1 ≤ 600000) (hfs : slots + 5 ≤ 7302250) (hW : cx_Wo D dA s.heap.size (wj dA σ μ ad) H) (hS : va_S (cd_A s.heap.size) s.heap H locs) (hl : lv_has ls 4 [(3, .int (nI i)), (2, .ref (ad 9 0)), (1, .ref (ad 0 0)), (0, .ref b)]) (h : Sim (wj dA σ μ ad) (mj dA σ μ ad)) (kk : ∀ (σ : cx_S) (μ : cm_S) (ad : Nat → Nat → Nat) (H : Heap) (locs : List Loc), cx_Wo D dA s.heap.size (wj dA σ μ ad) H → va_S (cd_A s.heap.size) s.heap H locs → lv_has ls 4 [(3, .int (nI i)), (2, .ref (ad 9 0)), (1, .ref (ad 0 0)), (0, .ref b)] → Sim (wj dA σ μ ad) (mj dA σ μ ad) → W p l e room_1 s m #[Value.ref b] below meth c H locs (cells + 1) (slots + 5) Q (F0 m 483 ls [])) : W p l e room_1 s m #[Value.ref b] below meth c H locs cells slots Q (F0 m 363 ls []) := by
  obtain ⟨x1, ex1⟩ : ∃ x, xs (i + 1) = x := ⟨_, rfl⟩
  refine lv_aload_n hx hb d_law_363 rfl (lv_at hl 2 rfl) ?_
  refine la_rd hx hb hX hbl hL hS hl rfl rfl 1 (by decide) (by omega) (v := x1) ex1 d_law_364 d_law_365 d_law_366 d_law_367 d_law_368 ?_
  refine cx_cV (As := [.int x1]) (n := 1) (rest := []) ⟨hx, hb, hml, hown, hA⟩ (cd_GA mw_316) hE (Nat.le_refl _) hW hS 0 0 rfl rfl rfl (c_CarDesk_drop l D dA s.heap.size (wj dA σ μ ad) x1 h.Iv) mw_317 mw_318 mw_319 mw_32 ⟨by decide, by decide, by decide +kernel⟩ rfl rfl ⟨by decide, by decide⟩ rfl hl.1 rfl (by decide) d_law_369 ⟨show cells + 0 ≤ 600000 by omega, show slots + 0 ≤ 7302250 by omega⟩ (fun H locs hW hS => ?_)
  have hW := br_m (k_drop (wj dA σ μ ad) x1) hW
  have h : Sim (wj dA σ μ ad) (mj dA ((f_CarDesk_drop (wj dA σ μ ad) x1).2.1) μ ad) := h
  show W p l e room_1 s m #[Value.ref b] below meth c H locs _ _ Q (F0 m 372 ls [.int (f_CarDesk_drop (wj dA σ μ ad) x1).1])
  refine lv_aload_n hx hb d_law_372 rfl (lv_at hl 1 rfl) ?_
  refine la_rd hx hb hX hbl hL hS hl rfl rfl 1 (by decide) (by omega) (v := x1) ex1 d_law_373 d_law_374 d_law_375 d_law_376 d_law_377 ?_
  refine cm_cV (As := [.int x1]) (n := 1) (rest := [.int (f_CarDesk_drop (wj dA σ μ ad) x1).1]) ⟨hx, hb, hml, hown, hA⟩ (cd_GA mw_320) hE (Nat.le_refl _) hW hS 9 0 rfl rfl rfl (c_Model_drop l D dA s.heap.size (mj dA ((f_CarDesk_drop (wj dA σ μ ad) x1).2.1) μ ad) x1) mw_321 mw_322 mw_323 mw_174 ⟨by decide, by decide, by decide +kernel⟩ rfl rfl ⟨by decide, by decide⟩ rfl hl.1 rfl (Nat.le_of_ble_eq_true rfl) d_law_378 ⟨show cells + 0 + 0 ≤ 600000 by omega, show slots + 0 + 0 ≤ 7302250 by omega⟩ (fun H locs hW hS => ?_)
  obtain ⟨es, h⟩ := sim_drop h x1
  have hW := br_x (σ := ((f_CarDesk_drop (wj dA σ μ ad) x1).2.1)) (km_drop (mj dA ((f_CarDesk_drop (wj dA σ μ ad) x1).2.1) μ ad) x1) hW
  refine lv_icmp_eq (tgt := 483) hx hb d_law_381 (by decide) (fun _ => ?_) (fun q => absurd es q)
  refine W.widen (k := cells + 1) (n := slots + 5) (by omega) (by omega) ?_
  exact kk _ _ _ _ _ hW hS hl h
set_option maxHeartbeats 2000000 in
set_option maxRecDepth 100000 in
theorem la_numbers {p : Program} {e : Env} {s : State} {m : MethodId} {below : List Frame} {meth : Method} {c : Code} {l : Launch} {b L : Nat} {xs : Nat → Int32} {D : va_G} {dA : Nat → ClassId} {Q : State → Prop} (hx : p.tables.exec = Jvm.exec) (hb : c.code = code) (hml : c.maxLocals = 4) (hown : s.vm.findClass R_law = some m.cls) (hA : ∀ w ∈ cd_WA, w.before #[Value.ref b] s = true) (hc : (Jvm.Cond.constantLong R_law 13 4294967295).before #[Value.ref b] s = true) (hX : va_X b L xs s s.heap) (hbl : b < s.heap.size) (hL : L ≤ 2560) (hE : cd_EV D (cx_tys dA) s) {σ : cx_S} {μ : cm_S} {ad : Nat → Nat → Nat} {H : Heap} {locs : List Loc} {cells slots i : Nat} {ls : Array Slot} (hi : i + 5 ≤ L) (hfc : cells + 1 ≤ 600000) (hfs : slots + 5 ≤ 7302250) (hW : cx_Wo D dA s.heap.size (wj dA σ μ ad) H) (hS : va_S (cd_A s.heap.size) s.heap H locs) (hl : lv_has ls 4 [(3, .int (nI i)), (2, .ref (ad 9 0)), (1, .ref (ad 0 0)), (0, .ref b)]) (h : Sim (wj dA σ μ ad) (mj dA σ μ ad)) (kk : ∀ (σ : cx_S) (μ : cm_S) (ad : Nat → Nat → Nat) (H : Heap) (locs : List Loc), cx_Wo D dA s.heap.size (wj dA σ μ ad) H → va_S (cd_A s.heap.size) s.heap H locs → lv_has ls 4 [(3, .int (nI i)), (2, .ref (ad 9 0)), (1, .ref (ad 0 0)), (0, .ref b)] → Sim (wj dA σ μ ad) (mj dA σ μ ad) → W p l e room_1 s m #[Value.ref b] below meth c H locs (cells + 1) (slots + 5) Q (F0 m 483 ls [])) : W p l e room_1 s m #[Value.ref b] below meth c H locs cells slots Q (F0 m 386 ls []) := by
  obtain ⟨x1, ex1⟩ : ∃ x, xs (i + 1) = x := ⟨_, rfl⟩
  refine lv_aload_n hx hb d_law_386 rfl (lv_at hl 2 rfl) ?_
  refine la_rd hx hb hX hbl hL hS hl rfl rfl 1 (by decide) (by omega) (v := x1) ex1 d_law_387 d_law_388 d_law_389 d_law_390 d_law_391 ?_
  refine cx_cV (As := [.int x1]) (n := 1) (rest := []) ⟨hx, hb, hml, hown, hA⟩ (cd_GA mw_324) hE (Nat.le_refl _) hW hS 0 0 rfl rfl rfl (c_CarDesk_numbers l D dA s.heap.size (wj dA σ μ ad) x1 h.Iv) mw_325 mw_326 mw_327 mw_32 ⟨by decide, by decide, by decide +kernel⟩ rfl rfl ⟨by decide, by decide⟩ rfl hl.1 rfl (by decide) d_law_392 ⟨show cells + 0 ≤ 600000 by omega, show slots + 0 ≤ 7302250 by omega⟩ (fun H locs hW hS => ?_)
  have hW := br_m0 hW
  have h : Sim (wj dA σ μ ad) (mj dA σ μ ad) := h
  show W p l e room_1 s m #[Value.ref b] below meth c H locs _ _ Q (F0 m 395 ls [.int (f_CarDesk_numbers (wj dA σ μ ad) x1)])
  refine lv_aload_n hx hb d_law_395 rfl (lv_at hl 1 rfl) ?_
  refine la_rd hx hb hX hbl hL hS hl rfl rfl 1 (by decide) (by omega) (v := x1) ex1 d_law_396 d_law_397 d_law_398 d_law_399 d_law_400 ?_
  by_cases hk : vp_in x1 6
  · obtain ⟨j, hj, rfl⟩ := vp_in_of hk (by decide)
    refine cm_cV (As := [.int (nI j)]) (n := 1) (rest := [.int (f_CarDesk_numbers (wj dA σ μ ad) (nI j))]) ⟨hx, hb, hml, hown, hA⟩ (cd_GA mw_247) hE (Nat.le_refl _) hW hS 9 0 rfl rfl rfl (c_Model_numbers l D dA s.heap.size (mj dA σ μ ad) j hj) mw_328 mw_248 mw_249 mw_174 ⟨by decide, by decide, by decide +kernel⟩ rfl rfl ⟨by decide, by decide⟩ rfl hl.1 rfl (Nat.le_of_ble_eq_true rfl) d_law_401 ⟨show cells + 0 + 0 ≤ 600000 by omega, show slots + 0 + 0 ≤ 7302250 by omega⟩ (fun H locs hW hS => ?_)
    obtain ⟨es, h⟩ := sim_numbers h hj
    have hW := br_x (σ := σ) (rfl) hW
    refine lv_icmp_eq (tgt := 483) hx hb d_law_404 (by decide) (fun _ => ?_) (fun q => absurd es q)
    refine W.widen (k := cells + 1) (n := slots + 5) (by omega) (by omega) ?_
    exact kk _ _ _ _ _ hW hS hl h
  · skip
    refine cm_cV (As := [.int x1]) (n := 1) (rest := [.int (f_CarDesk_numbers (wj dA σ μ ad) x1)]) ⟨hx, hb, hml, hown, hA⟩ (cd_GA mw_247) hE (Nat.le_refl _) hW hS 9 0 rfl rfl rfl (c_Model_numbers0 l D dA s.heap.size (mj dA σ μ ad) x1 hk) mw_328 mw_248 mw_249 mw_174 ⟨by decide, by decide, by decide +kernel⟩ rfl rfl ⟨by decide, by decide⟩ rfl hl.1 rfl (Nat.le_of_ble_eq_true rfl) d_law_401 ⟨show cells + 0 + 0 ≤ 600000 by omega, show slots + 0 + 0 ≤ 7302250 by omega⟩ (fun H locs hW hS => ?_)
    obtain ⟨es, h⟩ := sim_numbers0 h hk
    have hW := br_x (σ := σ) (rfl) hW
    refine lv_icmp_eq (tgt := 483) hx hb d_law_404 (by decide) (fun _ => ?_) (fun q => absurd es q)
    refine W.widen (k := cells + 1) (n := slots + 5) (by omega) (by omega) ?_
    exact kk _ _ _ _ _ hW hS hl h
set_option maxHeartbeats 2000000 in
set_option maxRecDepth 100000 in
theorem la_again {p : Program} {e : Env} {s : State} {m : MethodId} {below : List Frame} {meth : Method} {c : Code} {l : Launch} {b L : Nat} {xs : Nat → Int32} {D : va_G} {dA : Nat → ClassId} {Q : State → Prop} (hx : p.tables.exec = Jvm.exec) (hb : c.code = code) (hml : c.maxLocals = 4) (hown : s.vm.findClass R_law = some m.cls) (hA : ∀ w ∈ cd_WA, w.before #[Value.ref b] s = true) (hc : (Jvm.Cond.constantLong R_law 13 4294967295).before #[Value.ref b] s = true) (hX : va_X b L xs s s.heap) (hbl : b < s.heap.size) (hL : L ≤ 2560) (hE : cd_EV D (cx_tys dA) s) {σ : cx_S} {μ : cm_S} {ad : Nat → Nat → Nat} {H : Heap} {locs : List Loc} {cells slots i : Nat} {ls : Array Slot} (hi : i + 5 ≤ L) (hfc : cells + 1 ≤ 600000) (hfs : slots + 5 ≤ 7302250) (hW : cx_Wo D dA s.heap.size (wj dA σ μ ad) H) (hS : va_S (cd_A s.heap.size) s.heap H locs) (hl : lv_has ls 4 [(3, .int (nI i)), (2, .ref (ad 9 0)), (1, .ref (ad 0 0)), (0, .ref b)]) (h : Sim (wj dA σ μ ad) (mj dA σ μ ad)) (kk : ∀ (σ : cx_S) (μ : cm_S) (ad : Nat → Nat → Nat) (H : Heap) (locs : List Loc), cx_Wo D dA s.heap.size (wj dA σ μ ad) H → va_S (cd_A s.heap.size) s.heap H locs → lv_has ls 4 [(3, .int (nI i)), (2, .ref (ad 9 0)), (1, .ref (ad 0 0)), (0, .ref b)] → Sim (wj dA σ μ ad) (mj dA σ μ ad) → W p l e room_1 s m #[Value.ref b] below meth c H locs (cells + 1) (slots + 5) Q (F0 m 483 ls [])) : W p l e room_1 s m #[Value.ref b] below meth c H locs cells slots Q (F0 m 409 ls []) := by
  obtain ⟨x1, ex1⟩ : ∃ x, xs (i + 1) = x := ⟨_, rfl⟩
  obtain ⟨x2, ex2⟩ : ∃ x, xs (i + 2) = x := ⟨_, rfl⟩
  obtain ⟨x3, ex3⟩ : ∃ x, xs (i + 3) = x := ⟨_, rfl⟩
  obtain ⟨x4, ex4⟩ : ∃ x, xs (i + 4) = x := ⟨_, rfl⟩
  refine lv_aload_n hx hb d_law_409 rfl (lv_at hl 2 rfl) ?_
  refine la_rd hx hb hX hbl hL hS hl rfl rfl 1 (by decide) (by omega) (v := x1) ex1 d_law_410 d_law_411 d_law_412 d_law_413 d_law_414 ?_
  refine la_rd hx hb hX hbl hL hS hl rfl rfl 2 (by decide) (by omega) (v := x2) ex2 d_law_415 d_law_416 d_law_417 d_law_418 d_law_419 ?_
  refine la_rdl hx hb hown hc hX hbl hL hS hl rfl rfl 3 4 (by decide) (by decide) (by omega) (by omega) (v := x3) (u := x4) ex3 ex4 d_law_420 d_law_421 d_law_422 d_law_423 d_law_424 d_law_425 d_law_426 d_law_428 d_law_429 d_law_430 d_law_431 d_law_432 d_law_433 d_law_434 d_law_435 d_law_438 d_law_439 ?_
  refine cx_cV (As := [.int x1, .int x2, .long (la_lj x3 x4)]) (n := 3) (rest := []) ⟨hx, hb, hml, hown, hA⟩ (cd_GA mw_329) hE (Nat.le_refl _) hW hS 0 0 rfl rfl rfl (c_CarDesk_again l D dA s.heap.size (wj dA σ μ ad) x1 x2 (la_lj x3 x4) h.Iv) mw_330 mw_331 mw_332 mw_32 ⟨by decide, by decide, by decide +kernel⟩ rfl rfl ⟨by decide, by decide⟩ rfl hl.1 rfl (by decide) d_law_440 ⟨show cells + 0 ≤ 600000 by omega, show slots + 0 ≤ 7302250 by omega⟩ (fun H locs hW hS => ?_)
  have hW := br_m0 hW
  have h : Sim (wj dA σ μ ad) (mj dA σ μ ad) := h
  show W p l e room_1 s m #[Value.ref b] below meth c H locs _ _ Q (F0 m 443 ls [.long (f_CarDesk_again (wj dA σ μ ad) x1 x2 (la_lj x3 x4))])
  refine lv_aload_n hx hb d_law_443 rfl (lv_at hl 1 rfl) ?_
  refine la_rd hx hb hX hbl hL hS hl rfl rfl 1 (by decide) (by omega) (v := x1) ex1 d_law_444 d_law_445 d_law_446 d_law_447 d_law_448 ?_
  refine la_rd hx hb hX hbl hL hS hl rfl rfl 2 (by decide) (by omega) (v := x2) ex2 d_law_449 d_law_450 d_law_451 d_law_452 d_law_453 ?_
  refine la_rdl hx hb hown hc hX hbl hL hS hl rfl rfl 3 4 (by decide) (by decide) (by omega) (by omega) (v := x3) (u := x4) ex3 ex4 d_law_454 d_law_455 d_law_456 d_law_457 d_law_458 d_law_459 d_law_460 d_law_462 d_law_463 d_law_464 d_law_465 d_law_466 d_law_467 d_law_468 d_law_469 d_law_472 d_law_473 ?_
  refine cm_cV (As := [.int x1, .int x2, .long (la_lj x3 x4)]) (n := 3) (rest := [.long (f_CarDesk_again (wj dA σ μ ad) x1 x2 (la_lj x3 x4))]) ⟨hx, hb, hml, hown, hA⟩ (cd_GA mw_333) hE (Nat.le_refl _) hW hS 9 0 rfl rfl rfl (c_Model_again l D dA s.heap.size (mj dA σ μ ad) x1 x2 (la_lj x3 x4)) mw_334 mw_335 mw_336 mw_174 ⟨by decide, by decide, by decide +kernel⟩ rfl rfl ⟨by decide, by decide⟩ rfl hl.1 rfl (Nat.le_of_ble_eq_true rfl) d_law_474 ⟨show cells + 0 + 0 ≤ 600000 by omega, show slots + 0 + 0 ≤ 7302250 by omega⟩ (fun H locs hW hS => ?_)
  obtain ⟨es, h⟩ := sim_again h x1 x2 (la_lj x3 x4)
  have hW := br_x (σ := σ) (km_again (mj dA σ μ ad) x1 x2 (la_lj x3 x4)) hW
  refine cd_lc_eq (tgt := 483) hx hb d_law_477 d_law_478 (by decide) (fun _ => ?_) (fun q => absurd es q)
  refine W.widen (k := cells + 1) (n := slots + 5) (by omega) (by omega) ?_
  exact kk _ _ _ _ _ hW hS hl h
