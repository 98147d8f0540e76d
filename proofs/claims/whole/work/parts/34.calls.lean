/-! calls whose answer and world are known -/
section CXC
variable {p : Program} {l : Launch} {e : Env} {R : Room} {s : State} {m : MethodId} {args : Array Value} {below : List Frame} {meth : Method} {c : Code} {H : Heap} {locs : List Loc} {cells slots : Nat} {Q : State → Prop}
variable {cc : ByteArray} {pc : Nat} {ls : Array Slot} {rest : List Value} {D : va_G} {b0 : Nat} {dA : Nat → ClassId} {w w0 : cx_W} {x0 : Value} {mc ms : Nat} {st0 : List Value}
variable {nL maxL n index ci : Nat} {own C host : String} {y : MethodName} {bytes : ByteArray} {ret : Option FieldType} {rm : Room} {As : List Value} {Ts : List Cond} {q : vw_C} {fs : List Value}
theorem cx_cV (S : CallFix p m c cc nL s args Ts own) (hG : GoodIn Ts (Cond.code y bytes maxL ret :: cd_WA)) (hE : cd_EV D (cx_tys dA) s) (hb0 : b0 ≤ s.heap.size) (hW : cx_Wo D dA b0 w H) (hS : va_S (cd_A b0) s.heap H locs) (a b : Nat) (hd : cx_dm w a b) (he : cx_ce dA w a b = .inr (ci, fs)) (hc : classes[ci]? = some q)
    (hM : cd_Ct l D (cx_tys dA) b0 y (Cond.code y bytes maxL ret :: cd_WA) rm (.ref (x_ad w a b) :: As) (cx_dm w) (x_ad w) (cx_ce dA w) (cx_R dA (some x0) w0) mc ms) (hl : Cond.methodLink own index y ∈ Ts) (hin : Cond.instanceMethod y ∈ Ts) (hsel : Cond.selects q.1 y y ∈ Ts) (hini : Cond.initialized y.cls ∈ Ts)
    (hy : y.cls ≠ "java/lang/invoke/MethodHandle" ∧ y.cls ≠ "java/lang/invoke/VarHandle" ∧ (parseMethodDescriptor y.desc).map (fun d => d.parameters.length) = some n) (hrc : rm.cells = mc) (hrs : rm.slots = ms) (hR : rm.frames + 1 ≤ R.frames ∧ 8 + (maxL + 11) + rm.locals ≤ R.locals)
    (hn : As.length = n) (hsize : ls.size = nL) (hst : st0 = As.reverse ++ .ref (x_ad w a b) :: rest) (hro : (rest.map fun v => v.category).sum ≤ 8) (hdg : decode cc pc = .ok (.invokevirtual index, 3)) (hf : cells + mc ≤ R.cells ∧ slots + ms ≤ R.slots)
    (kk : ∀ (H1 : Heap) (locs1 : List Loc), cx_Wo D dA b0 w0 H1 → va_S (cd_A b0) s.heap H1 locs1 → W p l e R s m args below meth c H1 locs1 (cells + mc) (slots + ms) Q (F0 m (pc + 3) ls (x0 :: rest))) : W p l e R s m args below meth c H locs cells slots Q (F0 m pc ls st0) :=
  cd_cV S hG hE hb0 hW hS a b hd he hc hM hl hin hsel hini hy hrc hrs hR hn hsize hst hro hdg hf (fun v dm ad ce H1 locs1 hQ hW hS => by obtain ⟨rfl, rfl, rfl, rfl⟩ := hQ; exact kk H1 locs1 hW hS)
theorem cx_cV0 (S : CallFix p m c cc nL s args Ts own) (hG : GoodIn Ts (Cond.code y bytes maxL ret :: cd_WA)) (hE : cd_EV D (cx_tys dA) s) (hb0 : b0 ≤ s.heap.size) (hW : cx_Wo D dA b0 w H) (hS : va_S (cd_A b0) s.heap H locs) (a b : Nat) (hd : cx_dm w a b) (he : cx_ce dA w a b = .inr (ci, fs)) (hc : classes[ci]? = some q)
    (hM : cd_Ct l D (cx_tys dA) b0 y (Cond.code y bytes maxL ret :: cd_WA) rm (.ref (x_ad w a b) :: As) (cx_dm w) (x_ad w) (cx_ce dA w) (cx_R dA none w0) mc ms) (hl : Cond.methodLink own index y ∈ Ts) (hin : Cond.instanceMethod y ∈ Ts) (hsel : Cond.selects q.1 y y ∈ Ts) (hini : Cond.initialized y.cls ∈ Ts)
    (hy : y.cls ≠ "java/lang/invoke/MethodHandle" ∧ y.cls ≠ "java/lang/invoke/VarHandle" ∧ (parseMethodDescriptor y.desc).map (fun d => d.parameters.length) = some n) (hrc : rm.cells = mc) (hrs : rm.slots = ms) (hR : rm.frames + 1 ≤ R.frames ∧ 8 + (maxL + 11) + rm.locals ≤ R.locals)
    (hn : As.length = n) (hsize : ls.size = nL) (hst : st0 = As.reverse ++ .ref (x_ad w a b) :: rest) (hro : (rest.map fun v => v.category).sum ≤ 8) (hdg : decode cc pc = .ok (.invokevirtual index, 3)) (hf : cells + mc ≤ R.cells ∧ slots + ms ≤ R.slots)
    (kk : ∀ (H1 : Heap) (locs1 : List Loc), cx_Wo D dA b0 w0 H1 → va_S (cd_A b0) s.heap H1 locs1 → W p l e R s m args below meth c H1 locs1 (cells + mc) (slots + ms) Q (F0 m (pc + 3) ls rest)) : W p l e R s m args below meth c H locs cells slots Q (F0 m pc ls st0) :=
  cd_cV S hG hE hb0 hW hS a b hd he hc hM hl hin hsel hini hy hrc hrs hR hn hsize hst hro hdg hf (fun v dm ad ce H1 locs1 hQ hW hS => by obtain ⟨rfl, rfl, rfl, rfl⟩ := hQ; exact kk H1 locs1 hW hS)
theorem cx_cVN (S : CallFix p m c cc nL s args Ts own) (hG : GoodIn Ts (Cond.code y bytes maxL ret :: cd_WA)) (hE : cd_EV D (cx_tys dA) s) (hb0 : b0 ≤ s.heap.size) (hW : cx_Wo D dA b0 w H) (hS : va_S (cd_A b0) s.heap H locs) (a b : Nat) (hd : cx_dm w a b) (he : cx_ce dA w a b = .inr (ci, fs)) (hc : classes[ci]? = some q)
    (hM : cd_Ct l D (cx_tys dA) b0 y (Cond.code y bytes maxL ret :: cd_WA) rm (.ref (x_ad w a b) :: As) (cx_dm w) (x_ad w) (cx_ce dA w) (cx_R dA (some x0) w0) mc ms) (hl : Cond.methodLinkNest own index y host ∈ cd_nest) (hin : Cond.instanceMethod y ∈ Ts) (hsel : Cond.selects q.1 y y ∈ Ts) (hini : Cond.initialized y.cls ∈ Ts)
    (hy : y.cls ≠ "java/lang/invoke/MethodHandle" ∧ y.cls ≠ "java/lang/invoke/VarHandle" ∧ (parseMethodDescriptor y.desc).map (fun d => d.parameters.length) = some n) (hrc : rm.cells = mc) (hrs : rm.slots = ms) (hR : rm.frames + 1 ≤ R.frames ∧ 8 + (maxL + 11) + rm.locals ≤ R.locals)
    (hn : As.length = n) (hsize : ls.size = nL) (hst : st0 = As.reverse ++ .ref (x_ad w a b) :: rest) (hro : (rest.map fun v => v.category).sum ≤ 8) (hdg : decode cc pc = .ok (.invokevirtual index, 3)) (hf : cells + mc ≤ R.cells ∧ slots + ms ≤ R.slots)
    (kk : ∀ (H1 : Heap) (locs1 : List Loc), cx_Wo D dA b0 w0 H1 → va_S (cd_A b0) s.heap H1 locs1 → W p l e R s m args below meth c H1 locs1 (cells + mc) (slots + ms) Q (F0 m (pc + 3) ls (x0 :: rest))) : W p l e R s m args below meth c H locs cells slots Q (F0 m pc ls st0) :=
  cd_cVN S hG hE hb0 hW hS a b hd he hc hM hl hin hsel hini hy hrc hrs hR hn hsize hst hro hdg hf (fun v dm ad ce H1 locs1 hQ hW hS => by obtain ⟨rfl, rfl, rfl, rfl⟩ := hQ; exact kk H1 locs1 hW hS)
theorem cx_cVN0 (S : CallFix p m c cc nL s args Ts own) (hG : GoodIn Ts (Cond.code y bytes maxL ret :: cd_WA)) (hE : cd_EV D (cx_tys dA) s) (hb0 : b0 ≤ s.heap.size) (hW : cx_Wo D dA b0 w H) (hS : va_S (cd_A b0) s.heap H locs) (a b : Nat) (hd : cx_dm w a b) (he : cx_ce dA w a b = .inr (ci, fs)) (hc : classes[ci]? = some q)
    (hM : cd_Ct l D (cx_tys dA) b0 y (Cond.code y bytes maxL ret :: cd_WA) rm (.ref (x_ad w a b) :: As) (cx_dm w) (x_ad w) (cx_ce dA w) (cx_R dA none w0) mc ms) (hl : Cond.methodLinkNest own index y host ∈ cd_nest) (hin : Cond.instanceMethod y ∈ Ts) (hsel : Cond.selects q.1 y y ∈ Ts) (hini : Cond.initialized y.cls ∈ Ts)
    (hy : y.cls ≠ "java/lang/invoke/MethodHandle" ∧ y.cls ≠ "java/lang/invoke/VarHandle" ∧ (parseMethodDescriptor y.desc).map (fun d => d.parameters.length) = some n) (hrc : rm.cells = mc) (hrs : rm.slots = ms) (hR : rm.frames + 1 ≤ R.frames ∧ 8 + (maxL + 11) + rm.locals ≤ R.locals)
    (hn : As.length = n) (hsize : ls.size = nL) (hst : st0 = As.reverse ++ .ref (x_ad w a b) :: rest) (hro : (rest.map fun v => v.category).sum ≤ 8) (hdg : decode cc pc = .ok (.invokevirtual index, 3)) (hf : cells + mc ≤ R.cells ∧ slots + ms ≤ R.slots)
    (kk : ∀ (H1 : Heap) (locs1 : List Loc), cx_Wo D dA b0 w0 H1 → va_S (cd_A b0) s.heap H1 locs1 → W p l e R s m args below meth c H1 locs1 (cells + mc) (slots + ms) Q (F0 m (pc + 3) ls rest)) : W p l e R s m args below meth c H locs cells slots Q (F0 m pc ls st0) :=
  cd_cVN S hG hE hb0 hW hS a b hd he hc hM hl hin hsel hini hy hrc hrs hR hn hsize hst hro hdg hf (fun v dm ad ce H1 locs1 hQ hW hS => by obtain ⟨rfl, rfl, rfl, rfl⟩ := hQ; exact kk H1 locs1 hW hS)
theorem cx_cS (S : CallFix p m c cc nL s args Ts own) (hG : GoodIn Ts (Cond.code y bytes maxL ret :: cd_WA)) (hE : cd_EV D (cx_tys dA) s) (hb0 : b0 ≤ s.heap.size) (hW : cx_Wo D dA b0 w H) (hS : va_S (cd_A b0) s.heap H locs)
    (hM : cd_Ct l D (cx_tys dA) b0 y (Cond.code y bytes maxL ret :: cd_WA) rm As (cx_dm w) (x_ad w) (cx_ce dA w) (cx_R dA (some x0) w0) mc ms) (hl : Cond.methodLink own index y ∈ Ts) (hin : Cond.static y ∈ Ts) (hini : Cond.initialized y.cls ∈ Ts)
    (hy : y.cls ≠ "java/lang/invoke/MethodHandle" ∧ y.cls ≠ "java/lang/invoke/VarHandle" ∧ (parseMethodDescriptor y.desc).map (fun d => d.parameters.length) = some n) (hrc : rm.cells = mc) (hrs : rm.slots = ms) (hR : rm.frames + 1 ≤ R.frames ∧ 8 + (maxL + 11) + rm.locals ≤ R.locals)
    (hn : As.length = n) (hsize : ls.size = nL) (hst : st0 = As.reverse ++ rest) (hro : (rest.map fun v => v.category).sum ≤ 8) (hdg : decode cc pc = .ok (.invokestatic index, 3)) (hf : cells + mc ≤ R.cells ∧ slots + ms ≤ R.slots)
    (kk : ∀ (H1 : Heap) (locs1 : List Loc), cx_Wo D dA b0 w0 H1 → va_S (cd_A b0) s.heap H1 locs1 → W p l e R s m args below meth c H1 locs1 (cells + mc) (slots + ms) Q (F0 m (pc + 3) ls (x0 :: rest))) : W p l e R s m args below meth c H locs cells slots Q (F0 m pc ls st0) :=
  cd_cS S hG hE hb0 hW hS hM hl hin hini hy hrc hrs hR hn hsize hst hro hdg hf (fun v dm ad ce H1 locs1 hQ hW hS => by obtain ⟨rfl, rfl, rfl, rfl⟩ := hQ; exact kk H1 locs1 hW hS)
theorem cx_cIN0 (S : CallFix p m c cc nL s args Ts own) (hG : GoodIn Ts (Cond.code y bytes maxL none :: cd_WA)) (hE : cd_EV D (cx_tys dA) s) (hb0 : b0 ≤ s.heap.size) (hW : cx_Wo D dA b0 w H) (hS : va_S (cd_A b0) s.heap H locs) (b : Nat)
    (hM : cd_Ct l D (cx_tys dA) b0 y (Cond.code y bytes maxL none :: cd_WA) rm (.ref b :: As) (cx_dm w) (x_ad w) (cx_ce dA w) (cx_R dA none w0) mc ms) (hl : Cond.methodLinkNest own index y host ∈ cd_nest) (hin : Cond.instanceMethod y ∈ Ts) (hini : Cond.initialized y.cls ∈ Ts) (hy1 : y.name = "<init>")
    (hy : y.cls ≠ "java/lang/invoke/MethodHandle" ∧ y.cls ≠ "java/lang/invoke/VarHandle" ∧ (parseMethodDescriptor y.desc).map (fun d => d.parameters.length) = some n) (hrc : rm.cells = mc) (hrs : rm.slots = ms) (hR : rm.frames + 1 ≤ R.frames ∧ 8 + (maxL + 11) + rm.locals ≤ R.locals)
    (hn : As.length = n) (hsize : ls.size = nL) (hst : st0 = As.reverse ++ .ref b :: rest) (hro : (rest.map fun v => v.category).sum ≤ 8) (hdg : decode cc pc = .ok (.invokespecial index, 3)) (hf : cells + mc ≤ R.cells ∧ slots + ms ≤ R.slots)
    (kk : ∀ (H1 : Heap) (locs1 : List Loc), cx_Wo D dA b0 w0 H1 → va_S (cd_A b0) s.heap H1 locs1 → W p l e R s m args below meth c H1 locs1 (cells + mc) (slots + ms) Q (F0 m (pc + 3) ls rest)) : W p l e R s m args below meth c H locs cells slots Q (F0 m pc ls st0) :=
  cd_cIN S hG hE hb0 hW hS b hM hl hin hini hy1 hy hrc hrs hR hn hsize hst hro hdg hf (fun v dm ad ce H1 locs1 hQ hW hS => by obtain ⟨rfl, rfl, rfl, rfl⟩ := hQ; exact kk H1 locs1 hW hS)
end CXC
/-- an index in range, out of two tests -/
theorem cd_in {x : Int32} {n : Nat} (N : Int32) (hN : N.toInt = n) (h0 : ¬ x < 0) (h1 : ¬ N ≤ x) : vp_in x n := by
  rw [vp_in_iff]
  rw [Int32.lt_iff_toInt_lt] at h0
  rw [Int32.le_iff_toInt_le] at h1
  have : (0 : Int32).toInt = 0 := by decide
  omega
/-- what every world of the class keeps -/
def cx_Iv (w : cx_W) : Prop := (∀ t, x_cnt w t ≤ 200) ∧ (∀ k, x_made w k ≤ 20) ∧ (∀ k i j, x_arr w k i = some j → x_al w j) ∧ ∀ j j', x_al w j → x_src w j = some j' → x_al w j'
/-- which things are made -/
def cx_Ia (w : cx_W) : Prop := ∀ j, x_al w j → ∃ k i, i < x_made w k ∧ j = 64 * k + i + 1
theorem cd_in2 {x : Int32} {n : Nat} (N : Int32) (hN : N.toInt = n) (h0 : ¬ x < 0) (h1 : x < N) : vp_in x n := by
  rw [vp_in_iff]
  rw [Int32.lt_iff_toInt_lt] at h0 h1
  have : (0 : Int32).toInt = 0 := by decide
  omega
theorem cd_vlt {x : Int32} {n : Nat} (h : vp_in x n) : x.toNatClampNeg < n := Nat.not_le.mp fun q => h (Or.inr q)
theorem cd_num {x : Int64} (h0 : ¬ x < 0) (h1 : x < 384) : ∃ k : Nat, k < 384 ∧ x = lN k ∧ x.toInt32 = nI k := by
  obtain ⟨k, hk, rfl⟩ := pk_lOf h0
  have h2 : lN k < lN 384 := h1
  exact ⟨k, (pk_lLT hk (by decide)).mp h2, rfl, lN_i k⟩
theorem cd_k64 {x : Int64} (h0 : ¬ x < 0) (h1 : x < 384) : vp_in (x.toInt32 / 64) 6 := by
  obtain ⟨k, hk, -, e⟩ := cd_num h0 h1
  rw [e, show (64 : Int32) = nI 64 from rfl, pk_div (by omega) (by decide) (by decide)]
  exact vp_in_nI (by omega) (by decide)
