/-! calls over the reference's world -/
section CMC
variable {p : Program} {l : Launch} {e : Env} {R : Room} {s : State} {m : MethodId} {args : Array Value} {below : List Frame} {meth : Method} {c : Code} {H : Heap} {locs : List Loc} {cells slots : Nat} {Q : State → Prop}
variable {cc : ByteArray} {pc : Nat} {ls : Array Slot} {rest : List Value} {D : va_G} {b0 : Nat} {dA : Nat → ClassId} {w w0 : cm_W} {x0 : Value} {mc ms : Nat} {st0 : List Value}
variable {nL maxL n index ci : Nat} {own C host : String} {y : MethodName} {bytes : ByteArray} {ret : Option FieldType} {rm : Room} {As : List Value} {Ts : List Cond} {q : vw_C} {fs : List Value}
theorem cm_cV (S : CallFix p m c cc nL s args Ts own) (hG : GoodIn Ts (Cond.code y bytes maxL ret :: cd_WA)) (hE : cd_EV D (cx_tys dA) s) (hb0 : b0 ≤ s.heap.size) (hW : cm_Wo D dA b0 w H) (hS : va_S (cd_A b0) s.heap H locs) (a b : Nat) (hd : cm_dm w a b) (he : cm_ce dA w a b = .inr (ci, fs)) (hc : classes[ci]? = some q)
    (hM : cd_Ct l D (cx_tys dA) b0 y (Cond.code y bytes maxL ret :: cd_WA) rm (.ref (m_ad w a b) :: As) (cm_dm w) (m_ad w) (cm_ce dA w) (cm_R dA (some x0) w0) mc ms) (hl : Cond.methodLink own index y ∈ Ts) (hin : Cond.instanceMethod y ∈ Ts) (hsel : Cond.selects q.1 y y ∈ Ts) (hini : Cond.initialized y.cls ∈ Ts)
    (hy : y.cls ≠ "java/lang/invoke/MethodHandle" ∧ y.cls ≠ "java/lang/invoke/VarHandle" ∧ (parseMethodDescriptor y.desc).map (fun d => d.parameters.length) = some n) (hrc : rm.cells = mc) (hrs : rm.slots = ms) (hR : rm.frames + 1 ≤ R.frames ∧ 8 + (maxL + 11) + rm.locals ≤ R.locals)
    (hn : As.length = n) (hsize : ls.size = nL) (hst : st0 = As.reverse ++ .ref (m_ad w a b) :: rest) (hro : (rest.map fun v => v.category).sum ≤ 8) (hdg : decode cc pc = .ok (.invokevirtual index, 3)) (hf : cells + mc ≤ R.cells ∧ slots + ms ≤ R.slots)
    (kk : ∀ (H1 : Heap) (locs1 : List Loc), cm_Wo D dA b0 w0 H1 → va_S (cd_A b0) s.heap H1 locs1 → W p l e R s m args below meth c H1 locs1 (cells + mc) (slots + ms) Q (F0 m (pc + 3) ls (x0 :: rest))) : W p l e R s m args below meth c H locs cells slots Q (F0 m pc ls st0) :=
  cd_cV S hG hE hb0 hW hS a b hd he hc hM hl hin hsel hini hy hrc hrs hR hn hsize hst hro hdg hf (fun v dm ad ce H1 locs1 hQ hW hS => by obtain ⟨rfl, rfl, rfl, rfl⟩ := hQ; exact kk H1 locs1 hW hS)
theorem cm_cV0 (S : CallFix p m c cc nL s args Ts own) (hG : GoodIn Ts (Cond.code y bytes maxL ret :: cd_WA)) (hE : cd_EV D (cx_tys dA) s) (hb0 : b0 ≤ s.heap.size) (hW : cm_Wo D dA b0 w H) (hS : va_S (cd_A b0) s.heap H locs) (a b : Nat) (hd : cm_dm w a b) (he : cm_ce dA w a b = .inr (ci, fs)) (hc : classes[ci]? = some q)
    (hM : cd_Ct l D (cx_tys dA) b0 y (Cond.code y bytes maxL ret :: cd_WA) rm (.ref (m_ad w a b) :: As) (cm_dm w) (m_ad w) (cm_ce dA w) (cm_R dA none w0) mc ms) (hl : Cond.methodLink own index y ∈ Ts) (hin : Cond.instanceMethod y ∈ Ts) (hsel : Cond.selects q.1 y y ∈ Ts) (hini : Cond.initialized y.cls ∈ Ts)
    (hy : y.cls ≠ "java/lang/invoke/MethodHandle" ∧ y.cls ≠ "java/lang/invoke/VarHandle" ∧ (parseMethodDescriptor y.desc).map (fun d => d.parameters.length) = some n) (hrc : rm.cells = mc) (hrs : rm.slots = ms) (hR : rm.frames + 1 ≤ R.frames ∧ 8 + (maxL + 11) + rm.locals ≤ R.locals)
    (hn : As.length = n) (hsize : ls.size = nL) (hst : st0 = As.reverse ++ .ref (m_ad w a b) :: rest) (hro : (rest.map fun v => v.category).sum ≤ 8) (hdg : decode cc pc = .ok (.invokevirtual index, 3)) (hf : cells + mc ≤ R.cells ∧ slots + ms ≤ R.slots)
    (kk : ∀ (H1 : Heap) (locs1 : List Loc), cm_Wo D dA b0 w0 H1 → va_S (cd_A b0) s.heap H1 locs1 → W p l e R s m args below meth c H1 locs1 (cells + mc) (slots + ms) Q (F0 m (pc + 3) ls rest)) : W p l e R s m args below meth c H locs cells slots Q (F0 m pc ls st0) :=
  cd_cV S hG hE hb0 hW hS a b hd he hc hM hl hin hsel hini hy hrc hrs hR hn hsize hst hro hdg hf (fun v dm ad ce H1 locs1 hQ hW hS => by obtain ⟨rfl, rfl, rfl, rfl⟩ := hQ; exact kk H1 locs1 hW hS)
theorem cm_cVN (S : CallFix p m c cc nL s args Ts own) (hG : GoodIn Ts (Cond.code y bytes maxL ret :: cd_WA)) (hE : cd_EV D (cx_tys dA) s) (hb0 : b0 ≤ s.heap.size) (hW : cm_Wo D dA b0 w H) (hS : va_S (cd_A b0) s.heap H locs) (a b : Nat) (hd : cm_dm w a b) (he : cm_ce dA w a b = .inr (ci, fs)) (hc : classes[ci]? = some q)
    (hM : cd_Ct l D (cx_tys dA) b0 y (Cond.code y bytes maxL ret :: cd_WA) rm (.ref (m_ad w a b) :: As) (cm_dm w) (m_ad w) (cm_ce dA w) (cm_R dA (some x0) w0) mc ms) (hl : Cond.methodLinkNest own index y host ∈ cd_nest) (hin : Cond.instanceMethod y ∈ Ts) (hsel : Cond.selects q.1 y y ∈ Ts) (hini : Cond.initialized y.cls ∈ Ts)
    (hy : y.cls ≠ "java/lang/invoke/MethodHandle" ∧ y.cls ≠ "java/lang/invoke/VarHandle" ∧ (parseMethodDescriptor y.desc).map (fun d => d.parameters.length) = some n) (hrc : rm.cells = mc) (hrs : rm.slots = ms) (hR : rm.frames + 1 ≤ R.frames ∧ 8 + (maxL + 11) + rm.locals ≤ R.locals)
    (hn : As.length = n) (hsize : ls.size = nL) (hst : st0 = As.reverse ++ .ref (m_ad w a b) :: rest) (hro : (rest.map fun v => v.category).sum ≤ 8) (hdg : decode cc pc = .ok (.invokevirtual index, 3)) (hf : cells + mc ≤ R.cells ∧ slots + ms ≤ R.slots)
    (kk : ∀ (H1 : Heap) (locs1 : List Loc), cm_Wo D dA b0 w0 H1 → va_S (cd_A b0) s.heap H1 locs1 → W p l e R s m args below meth c H1 locs1 (cells + mc) (slots + ms) Q (F0 m (pc + 3) ls (x0 :: rest))) : W p l e R s m args below meth c H locs cells slots Q (F0 m pc ls st0) :=
  cd_cVN S hG hE hb0 hW hS a b hd he hc hM hl hin hsel hini hy hrc hrs hR hn hsize hst hro hdg hf (fun v dm ad ce H1 locs1 hQ hW hS => by obtain ⟨rfl, rfl, rfl, rfl⟩ := hQ; exact kk H1 locs1 hW hS)
theorem cm_cVN0 (S : CallFix p m c cc nL s args Ts own) (hG : GoodIn Ts (Cond.code y bytes maxL ret :: cd_WA)) (hE : cd_EV D (cx_tys dA) s) (hb0 : b0 ≤ s.heap.size) (hW : cm_Wo D dA b0 w H) (hS : va_S (cd_A b0) s.heap H locs) (a b : Nat) (hd : cm_dm w a b) (he : cm_ce dA w a b = .inr (ci, fs)) (hc : classes[ci]? = some q)
    (hM : cd_Ct l D (cx_tys dA) b0 y (Cond.code y bytes maxL ret :: cd_WA) rm (.ref (m_ad w a b) :: As) (cm_dm w) (m_ad w) (cm_ce dA w) (cm_R dA none w0) mc ms) (hl : Cond.methodLinkNest own index y host ∈ cd_nest) (hin : Cond.instanceMethod y ∈ Ts) (hsel : Cond.selects q.1 y y ∈ Ts) (hini : Cond.initialized y.cls ∈ Ts)
    (hy : y.cls ≠ "java/lang/invoke/MethodHandle" ∧ y.cls ≠ "java/lang/invoke/VarHandle" ∧ (parseMethodDescriptor y.desc).map (fun d => d.parameters.length) = some n) (hrc : rm.cells = mc) (hrs : rm.slots = ms) (hR : rm.frames + 1 ≤ R.frames ∧ 8 + (maxL + 11) + rm.locals ≤ R.locals)
    (hn : As.length = n) (hsize : ls.size = nL) (hst : st0 = As.reverse ++ .ref (m_ad w a b) :: rest) (hro : (rest.map fun v => v.category).sum ≤ 8) (hdg : decode cc pc = .ok (.invokevirtual index, 3)) (hf : cells + mc ≤ R.cells ∧ slots + ms ≤ R.slots)
    (kk : ∀ (H1 : Heap) (locs1 : List Loc), cm_Wo D dA b0 w0 H1 → va_S (cd_A b0) s.heap H1 locs1 → W p l e R s m args below meth c H1 locs1 (cells + mc) (slots + ms) Q (F0 m (pc + 3) ls rest)) : W p l e R s m args below meth c H locs cells slots Q (F0 m pc ls st0) :=
  cd_cVN S hG hE hb0 hW hS a b hd he hc hM hl hin hsel hini hy hrc hrs hR hn hsize hst hro hdg hf (fun v dm ad ce H1 locs1 hQ hW hS => by obtain ⟨rfl, rfl, rfl, rfl⟩ := hQ; exact kk H1 locs1 hW hS)
theorem cm_cS (S : CallFix p m c cc nL s args Ts own) (hG : GoodIn Ts (Cond.code y bytes maxL ret :: cd_WA)) (hE : cd_EV D (cx_tys dA) s) (hb0 : b0 ≤ s.heap.size) (hW : cm_Wo D dA b0 w H) (hS : va_S (cd_A b0) s.heap H locs)
    (hM : cd_Ct l D (cx_tys dA) b0 y (Cond.code y bytes maxL ret :: cd_WA) rm As (cm_dm w) (m_ad w) (cm_ce dA w) (cm_R dA (some x0) w0) mc ms) (hl : Cond.methodLink own index y ∈ Ts) (hin : Cond.static y ∈ Ts) (hini : Cond.initialized y.cls ∈ Ts)
    (hy : y.cls ≠ "java/lang/invoke/MethodHandle" ∧ y.cls ≠ "java/lang/invoke/VarHandle" ∧ (parseMethodDescriptor y.desc).map (fun d => d.parameters.length) = some n) (hrc : rm.cells = mc) (hrs : rm.slots = ms) (hR : rm.frames + 1 ≤ R.frames ∧ 8 + (maxL + 11) + rm.locals ≤ R.locals)
    (hn : As.length = n) (hsize : ls.size = nL) (hst : st0 = As.reverse ++ rest) (hro : (rest.map fun v => v.category).sum ≤ 8) (hdg : decode cc pc = .ok (.invokestatic index, 3)) (hf : cells + mc ≤ R.cells ∧ slots + ms ≤ R.slots)
    (kk : ∀ (H1 : Heap) (locs1 : List Loc), cm_Wo D dA b0 w0 H1 → va_S (cd_A b0) s.heap H1 locs1 → W p l e R s m args below meth c H1 locs1 (cells + mc) (slots + ms) Q (F0 m (pc + 3) ls (x0 :: rest))) : W p l e R s m args below meth c H locs cells slots Q (F0 m pc ls st0) :=
  cd_cS S hG hE hb0 hW hS hM hl hin hini hy hrc hrs hR hn hsize hst hro hdg hf (fun v dm ad ce H1 locs1 hQ hW hS => by obtain ⟨rfl, rfl, rfl, rfl⟩ := hQ; exact kk H1 locs1 hW hS)
theorem cm_cIN0 (S : CallFix p m c cc nL s args Ts own) (hG : GoodIn Ts (Cond.code y bytes maxL none :: cd_WA)) (hE : cd_EV D (cx_tys dA) s) (hb0 : b0 ≤ s.heap.size) (hW : cm_Wo D dA b0 w H) (hS : va_S (cd_A b0) s.heap H locs) (b : Nat)
    (hM : cd_Ct l D (cx_tys dA) b0 y (Cond.code y bytes maxL none :: cd_WA) rm (.ref b :: As) (cm_dm w) (m_ad w) (cm_ce dA w) (cm_R dA none w0) mc ms) (hl : Cond.methodLinkNest own index y host ∈ cd_nest) (hin : Cond.instanceMethod y ∈ Ts) (hini : Cond.initialized y.cls ∈ Ts) (hy1 : y.name = "<init>")
    (hy : y.cls ≠ "java/lang/invoke/MethodHandle" ∧ y.cls ≠ "java/lang/invoke/VarHandle" ∧ (parseMethodDescriptor y.desc).map (fun d => d.parameters.length) = some n) (hrc : rm.cells = mc) (hrs : rm.slots = ms) (hR : rm.frames + 1 ≤ R.frames ∧ 8 + (maxL + 11) + rm.locals ≤ R.locals)
    (hn : As.length = n) (hsize : ls.size = nL) (hst : st0 = As.reverse ++ .ref b :: rest) (hro : (rest.map fun v => v.category).sum ≤ 8) (hdg : decode cc pc = .ok (.invokespecial index, 3)) (hf : cells + mc ≤ R.cells ∧ slots + ms ≤ R.slots)
    (kk : ∀ (H1 : Heap) (locs1 : List Loc), cm_Wo D dA b0 w0 H1 → va_S (cd_A b0) s.heap H1 locs1 → W p l e R s m args below meth c H1 locs1 (cells + mc) (slots + ms) Q (F0 m (pc + 3) ls rest)) : W p l e R s m args below meth c H locs cells slots Q (F0 m pc ls st0) :=
  cd_cIN S hG hE hb0 hW hS b hM hl hin hini hy1 hy hrc hrs hR hn hsize hst hro hdg hf (fun v dm ad ce H1 locs1 hQ hW hS => by obtain ⟨rfl, rfl, rfl, rfl⟩ := hQ; exact kk H1 locs1 hW hS)
end CMC

theorem cm_in23 {x : Int32} (h0 : ¬ x < 0) (h1 : ¬ 23 < x) : vp_in x 24 := by
  rw [vp_in_iff]
  rw [Int32.lt_iff_toInt_lt] at h0 h1
  have : (0 : Int32).toInt = 0 := by decide
  have : (23 : Int32).toInt = 23 := by decide
  omega
theorem cm_in23' {x : Int32} (h0 : ¬ x < 0) (h1 : x ≤ 23) : vp_in x 24 := by
  rw [vp_in_iff]
  rw [Int32.lt_iff_toInt_lt] at h0
  rw [Int32.le_iff_toInt_le] at h1
  have : (0 : Int32).toInt = 0 := by decide
  have : (23 : Int32).toInt = 23 := by decide
  omega
theorem cm_rem6 {x : Int32} (h : vp_in x 24) : vp_in (x - x / 6 * 6) 6 := by
  obtain ⟨j, hj, rfl⟩ := vp_in_of h (by decide)
  rw [show (6 : Int32) = nI 6 from rfl, pk_rem (by omega) (by decide) (by decide)]
  exact vp_in_nI (Nat.mod_lt _ (by decide)) (by decide)
theorem cm_e64 {k : Nat} (hk : k < 6) : (64 : Int64) * (nI k).toInt64 = lN (64 * k) := by
  rw [nI_l (by omega), show (64 : Int64) = lN 64 from rfl, lN_mul]
theorem cm_num {y : Int64} {c : Int32} (hc : vp_in c 6) (h0 : ¬ y ≤ 64 * c.toInt64) (h1 : ¬ 64 * c.toInt64 + 64 ≤ y) : ∃ k n : Nat, k < 6 ∧ c = nI k ∧ 64 * k < n ∧ n < 64 * k + 64 ∧ y = lN n := by
  obtain ⟨k, hk, rfl⟩ := vp_in_of hc (by decide)
  rw [cm_e64 hk] at h0 h1
  have hy0 : ¬ y < 0 := fun q => h0 (by
    rw [Int64.lt_iff_toInt_lt] at q
    rw [Int64.le_iff_toInt_le, pk_lT (by omega)]
    have : (0 : Int64).toInt = 0 := by decide
    omega)
  obtain ⟨n, hn, rfl⟩ := pk_lOf hy0
  rw [show (64 : Int64) = lN 64 from rfl, lN_add] at h1
  rw [pk_lLE hn (by omega)] at h0
  rw [pk_lLE (by omega) hn] at h1
  exact ⟨k, n, hk, rfl, by omega, by omega, rfl⟩
theorem cm_isT {y : Int64} {c : Int32} (hc : vp_in c 6) (h0 : ¬ y ≤ 64 * c.toInt64) (h1 : ¬ 64 * c.toInt64 + 64 ≤ y) : vp_in y.toInt32 384 := by
  obtain ⟨k, n, hk, -, h2, h3, rfl⟩ := cm_num hc h0 h1
  rw [lN_i]
  exact vp_in_nI (by omega) (by decide)
theorem cd_out {x : Int32} (hk : ¬ vp_in x 6) (h0 : ¬ x < 0) : 6 ≤ x := Classical.byContradiction fun q => hk (cd_in 6 (by decide) h0 q)
theorem cm_in2 {x : Int32} (h0 : ¬ x < 0) (h1 : x ≤ 2) : vp_in x 3 := by
  rw [vp_in_iff]
  rw [Int32.lt_iff_toInt_lt] at h0
  rw [Int32.le_iff_toInt_le] at h1
  have : (0 : Int32).toInt = 0 := by decide
  have : (2 : Int32).toInt = 2 := by decide
  omega
theorem cm_co {f : Nat → Int32} (hco : ∀ t, t < 3 → ∃ c, c ≤ 200 ∧ f t = nI c) {x : Int32} (hx : vp_in x 3) (h : ¬ f x.toNatClampNeg = 200) : vp_in (f x.toNatClampNeg) 200 := by
  obtain ⟨c, hc, e⟩ := hco _ (cd_vlt hx)
  rw [e] at h ⊢
  have : c ≠ 200 := fun q => h (by rw [q]; rfl)
  exact vp_in_nI (by omega) (by decide)
theorem cm_in5 {x : Int32} (h0 : ¬ x < 0) (h1 : x ≤ 5) : vp_in x 6 := by
  rw [vp_in_iff]
  rw [Int32.lt_iff_toInt_lt] at h0
  rw [Int32.le_iff_toInt_le] at h1
  have : (0 : Int32).toInt = 0 := by decide
  have : (5 : Int32).toInt = 5 := by decide
  omega
theorem cm_cl {v : Int32} {N : Nat} (h : ∃ c, c ≤ N ∧ v = nI c) (hN : N < 2 ^ 31 := by decide) : v = nI v.toNatClampNeg ∧ v.toNatClampNeg ≤ N := by
  obtain ⟨c, hc, rfl⟩ := h
  rw [nI_clamp (by omega)]
  exact ⟨rfl, hc⟩
theorem cm_mk {f : Nat → Int32} {k : Nat} (hk : k < 6) (hma : ∀ k, k < 6 → ∃ c, c ≤ 20 ∧ f k = nI c) (h : ¬ f k = 20) : vp_in (64 * nI k + (f k + 1)) 384 := by
  obtain ⟨c, hc, e⟩ := hma k hk
  rw [e] at h ⊢
  have : c ≠ 20 := fun q => h (by rw [q]; rfl)
  rw [show (64 : Int32) = nI 64 from rfl, pk_mul, nI_1, nI_add]
  exact vp_in_nI (by omega) (by decide)
