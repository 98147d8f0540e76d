/-! MY ROWS: an instruction that touches the world -/
section CDR
variable {p : Program} {l : Launch} {e : Env} {R : Room} {s : State} {m : MethodId} {args : Array Value} {below : List Frame} {meth : Method} {c : Code} {H : Heap} {locs : List Loc} {cells slots : Nat} {Q : State → Prop}
variable {cc : ByteArray} {pc : Nat} {ls : Array Slot} {rest : List Value} {D : va_G} {b0 : Nat} {dm : Nat → Nat → Prop} {ad : Nat → Nat → Nat} {ce : Nat → Nat → va_E} {tys : List (ClassId × FieldType)}
theorem cd_get (hexec : p.tables.exec = Jvm.exec) (hb : c.code = cc) {own ref C : String} {T : u_T} {N ci index : Nat} {Ts : List Cond} (hts : ∀ w ∈ Ts, w.before args s = true) (hin : ∀ w ∈ u_ws C T N, w ∈ Ts) (hown : s.vm.findClass own = some m.cls) (hK : va_K D classes tys s) (hW : cd_Wo D b0 dm ad ce H) (a b : Nat) (hd : dm a b) {fs : List Value} (he : ce a b = .inr (ci, fs)) (hc : classes[ci]? = some (C, T, N)) (k : Nat) (hk : k < N) (hlink : Cond.fieldLink own index ref (T k).2.1 (T k).2.2.1 ∈ Ts) (hsame : (T k).1 = ref) {v : Value} (hv : fs[k]? = some v) (hdg : decode cc pc = .ok (.getfield index, 3))
    (kk : W p l e R s m args below meth c H locs cells slots Q (F0 m (pc + 3) ls (v :: rest))) : W p l e R s m args below meth c H locs cells slots Q (F0 m pc ls (.ref (ad a b) :: rest)) :=
  va_get hexec hb hts hin hown hK (hW.one hd he) 0 rfl hc k hk (hts _ hlink) (fun x h => by rw [← hsame]; exact h) hv hdg kk
theorem cd_getN (hexec : p.tables.exec = Jvm.exec) (hb : c.code = cc) {own ref C host : String} {T : u_T} {N ci index : Nat} {Ts : List Cond} (hts : ∀ w ∈ Ts, w.before args s = true) (hin : ∀ w ∈ u_ws C T N, w ∈ Ts) (hown : s.vm.findClass own = some m.cls) (hE : cd_EV D tys s) (hW : cd_Wo D b0 dm ad ce H) (a b : Nat) (hd : dm a b) {fs : List Value} (he : ce a b = .inr (ci, fs)) (hc : classes[ci]? = some (C, T, N)) (k : Nat) (hk : k < N) (hlink : Cond.fieldLinkNest own index ref (T k).2.1 (T k).2.2.1 host ∈ cd_nest) (hsame : (T k).1 = ref) {v : Value} (hv : fs[k]? = some v) (hdg : decode cc pc = .ok (.getfield index, 3))
    (kk : W p l e R s m args below meth c H locs cells slots Q (F0 m (pc + 3) ls (v :: rest))) : W p l e R s m args below meth c H locs cells slots Q (F0 m pc ls (.ref (ad a b) :: rest)) :=
  va_getN hexec hb hts hin hown hE.1 (hW.one hd he) 0 rfl hc k hk (va_Nw.use rfl (hE.2.1 _ hlink)) (fun x h => by rw [← hsame]; exact h) hv hdg kk
theorem cd_put (hexec : p.tables.exec = Jvm.exec) (hb : c.code = cc) {own ref C : String} {T : u_T} {N ci index : Nat} {Ts : List Cond} (hts : ∀ w ∈ Ts, w.before args s = true) (hin : ∀ w ∈ u_ws C T N, w ∈ Ts) (ty0 : Nat → FieldType) (hty : ∀ k, k < N → parseFieldDescriptor (T k).2.2.1 = some (ty0 k)) (hnm : ∀ a, a < N → ∀ b, b < N → a ≠ b → (T a).2.1 ≠ (T b).2.1) (hown : s.vm.findClass own = some m.cls) (hK : va_K D classes tys s) (hW : cd_Wo D b0 dm ad ce H) (hS : va_S (cd_A b0) s.heap H locs) (a b : Nat) (hd : dm a b) {fs : List Value} (he : ce a b = .inr (ci, fs)) (hc : classes[ci]? = some (C, T, N)) (k : Nat) (hk : k < N) (hlink : Cond.fieldLink own index ref (T k).2.1 (T k).2.2.1 ∈ Ts) (hsame : (T k).1 = ref) (hfin : (T k).2.2.2 = false) {v : Value} (hn : narrow (ty0 k) v = v) (hfit : fits (ty0 k) v = true) (hl : k < fs.length)
    (hdg : decode cc pc = .ok (.putfield index, 3)) (ce' : Nat → Nat → va_E) (h1 : ce' a b = .inr (ci, fs.set k v)) (h2 : ∀ x y, dm x y → ¬ (x = a ∧ y = b) → ce' x y = ce x y)
    (kk : ∀ (H1 : Heap) (locs1 : List Loc), cd_Wo D b0 dm ad ce' H1 → va_S (cd_A b0) s.heap H1 locs1 → W p l e R s m args below meth c H1 locs1 cells slots Q (F0 m (pc + 3) ls rest)) : W p l e R s m args below meth c H locs cells slots Q (F0 m pc ls (v :: .ref (ad a b) :: rest)) := by
  have hap := va_apart (own := own) hts hin ty0 hty hnm hK hc
  obtain ⟨r, q0, cell, q1, q2, q3, q4⟩ := (hW.one hd he) 0 _ rfl
  have hr : r = (C, T, N) := Option.some.inj (q0.symm.trans hc)
  subst hr
  obtain ⟨hSl, hfc, kC, hkC, hkind⟩ := hK.1 ci _ hc
  obtain ⟨cf, kf, fi, f, hi, hsl⟩ := hSl k hk
  have hlay := hts _ (hin _ (u_in_lay hk))
  unfold u_lay at hlay
  rw [if_neg (by rw [hfin]; decide)] at hlay
  have hst := (u_facts hfc hkC (u_lays hts hin hk) hi).1
  have h6 := u_store hfc hkC hkind hlay hi (hty k hk) hn hfit
  refine W.putK hexec hb (f := f) ⟨hown, hts _ hlink, ⟨_, _, _, by rw [← hsame]; exact hi⟩, hst⟩ (by rw [q2]; exact h6) q1 q3 (by rw [hsl]; exact k2_hasslot (q4 k hk)) rfl rfl hdg fun H' e1 e2 e3 => ?_
  rw [hsl] at e1 ⊢
  exact kk H' _ (hW.set hd (e := .inr (ci, fs.set k v)) ⟨_, hc, t_OB.to (V := updV (vp_V fs) k v) ⟨_, e1, q2, q3, t_set q4 hap hk v⟩ (fun j _ => vp_updV_set hl v j)⟩ e3 h1 h2) (hS.put e2 e3 (hW.1 a b hd).1)
theorem cd_putN (hexec : p.tables.exec = Jvm.exec) (hb : c.code = cc) {own ref C host : String} {T : u_T} {N ci index : Nat} {Ts : List Cond} (hts : ∀ w ∈ Ts, w.before args s = true) (hin : ∀ w ∈ u_ws C T N, w ∈ Ts) (ty0 : Nat → FieldType) (hty : ∀ k, k < N → parseFieldDescriptor (T k).2.2.1 = some (ty0 k)) (hnm : ∀ a, a < N → ∀ b, b < N → a ≠ b → (T a).2.1 ≠ (T b).2.1) (hown : s.vm.findClass own = some m.cls) (hE : cd_EV D tys s) (hW : cd_Wo D b0 dm ad ce H) (hS : va_S (cd_A b0) s.heap H locs) (a b : Nat) (hd : dm a b) {fs : List Value} (he : ce a b = .inr (ci, fs)) (hc : classes[ci]? = some (C, T, N)) (k : Nat) (hk : k < N) (hlink : Cond.fieldLinkNest own index ref (T k).2.1 (T k).2.2.1 host ∈ cd_nest) (hsame : (T k).1 = ref) (hfin : (T k).2.2.2 = false) {v : Value} (hn : narrow (ty0 k) v = v) (hfit : fits (ty0 k) v = true) (hl : k < fs.length)
    (hdg : decode cc pc = .ok (.putfield index, 3)) (ce' : Nat → Nat → va_E) (h1 : ce' a b = .inr (ci, fs.set k v)) (h2 : ∀ x y, dm x y → ¬ (x = a ∧ y = b) → ce' x y = ce x y)
    (kk : ∀ (H1 : Heap) (locs1 : List Loc), cd_Wo D b0 dm ad ce' H1 → va_S (cd_A b0) s.heap H1 locs1 → W p l e R s m args below meth c H1 locs1 cells slots Q (F0 m (pc + 3) ls rest)) : W p l e R s m args below meth c H locs cells slots Q (F0 m pc ls (v :: .ref (ad a b) :: rest)) := by
  have hK := hE.1
  have hap := va_apart (own := own) hts hin ty0 hty hnm hK hc
  obtain ⟨r, q0, cell, q1, q2, q3, q4⟩ := (hW.one hd he) 0 _ rfl
  have hr : r = (C, T, N) := Option.some.inj (q0.symm.trans hc)
  subst hr
  obtain ⟨hSl, hfc, kC, hkC, hkind⟩ := hK.1 ci _ hc
  obtain ⟨cf, kf, fi, f, hi, hsl⟩ := hSl k hk
  have hlay := hts _ (hin _ (u_in_lay hk))
  unfold u_lay at hlay
  rw [if_neg (by rw [hfin]; decide)] at hlay
  have hst := (u_facts hfc hkC (u_lays hts hin hk) hi).1
  have h6 := u_store hfc hkC hkind hlay hi (hty k hk) hn hfit
  refine va_WputK hexec hb (f := f) hown (va_Nw.use rfl (hE.2.1 _ hlink)) (by rw [← hsame]; exact hi) hst (by rw [q2]; exact h6) q1 q3 (by rw [hsl]; exact k2_hasslot (q4 k hk)) rfl rfl hdg fun H' e1 e2 e3 => ?_
  rw [hsl] at e1 ⊢
  exact kk H' _ (hW.set hd (e := .inr (ci, fs.set k v)) ⟨_, hc, t_OB.to (V := updV (vp_V fs) k v) ⟨_, e1, q2, q3, t_set q4 hap hk v⟩ (fun j _ => vp_updV_set hl v j)⟩ e3 h1 h2) (hS.put e2 e3 (hW.1 a b hd).1)
theorem cd_putF (hexec : p.tables.exec = Jvm.exec) (hb : c.code = cc) {own ref C : String} {T : u_T} {N ci index : Nat} {Ts : List Cond} (hts : ∀ w ∈ Ts, w.before args s = true) (hin : ∀ w ∈ u_ws C T N, w ∈ Ts) (ty0 : Nat → FieldType) (hty : ∀ k, k < N → parseFieldDescriptor (T k).2.2.1 = some (ty0 k)) (hnm : ∀ a, a < N → ∀ b, b < N → a ≠ b → (T a).2.1 ≠ (T b).2.1) (hown : s.vm.findClass own = some m.cls) (hK : va_K D classes tys s) (hW : cd_Wo D b0 dm ad ce H) (hS : va_S (cd_A b0) s.heap H locs) (a b : Nat) (hd : dm a b) {fs : List Value} (he : ce a b = .inr (ci, fs)) (hc : classes[ci]? = some (C, T, N)) (k : Nat) (hk : k < N) (hlink : Cond.fieldLink own index ref (T k).2.1 (T k).2.2.1 ∈ Ts) (hsame : (T k).1 = ref) (hfin : (T k).2.2.2 = true) (hin2 : meth.name = "<init>") (hdecl : (T k).1 = own) {v : Value} (hn : narrow (ty0 k) v = v) (hfit : fits (ty0 k) v = true) (hl : k < fs.length)
    (hdg : decode cc pc = .ok (.putfield index, 3)) (ce' : Nat → Nat → va_E) (h1 : ce' a b = .inr (ci, fs.set k v)) (h2 : ∀ x y, dm x y → ¬ (x = a ∧ y = b) → ce' x y = ce x y)
    (kk : ∀ (H1 : Heap) (locs1 : List Loc), cd_Wo D b0 dm ad ce' H1 → va_S (cd_A b0) s.heap H1 locs1 → W p l e R s m args below meth c H1 locs1 cells slots Q (F0 m (pc + 3) ls rest)) : W p l e R s m args below meth c H locs cells slots Q (F0 m pc ls (v :: .ref (ad a b) :: rest)) := by
  have hap := va_apart (own := own) hts hin ty0 hty hnm hK hc
  obtain ⟨r, q0, cell, q1, q2, q3, q4⟩ := (hW.one hd he) 0 _ rfl
  have hr : r = (C, T, N) := Option.some.inj (q0.symm.trans hc)
  subst hr
  obtain ⟨hSl, hfc, kC, hkC, hkind⟩ := hK.1 ci _ hc
  obtain ⟨cf, kf, fi, f, hi, hsl⟩ := hSl k hk
  have hlay := hts _ (hin _ (u_in_lay hk))
  unfold u_lay at hlay
  rw [if_pos hfin] at hlay
  have hst := (u_facts hfc hkC (u_lays hts hin hk) hi).1
  have hcf : m.cls = cf := by
    obtain ⟨_, _, c', _, _, _, -, -, hf', -, -, -, hown2, -⟩ := Cond.laysFinal_spec hlay
    have e1 : c' = cf := by have := hi.symm.trans hf'; simp at this; exact this.1.symm
    rw [hdecl] at hown2
    rw [← e1]; exact Option.some.inj (hown.symm.trans hown2)
  have h6 := u_fits hfc hkC hkind (Or.inr hlay) hi (hty k hk) hn hfit
  refine W.putFinK hexec hb hown (hts _ hlink) (by rw [← hsame]; exact hi) hst hcf hin2 (by rw [q2]; exact h6) q1 q3 (by rw [hsl]; exact k2_hasslot (q4 k hk)) rfl rfl hdg fun H' e1 e2 e3 => ?_
  rw [hsl] at e1 ⊢
  exact kk H' _ (hW.set hd (e := .inr (ci, fs.set k v)) ⟨_, hc, t_OB.to (V := updV (vp_V fs) k v) ⟨_, e1, q2, q3, t_set q4 hap hk v⟩ (fun j _ => vp_updV_set hl v j)⟩ e3 h1 h2) (hS.put e2 e3 (hW.1 a b hd).1)
theorem cd_iald (hexec : p.tables.exec = Jvm.exec) (hb : c.code = cc) (hK : va_K D classes tys s) (hW : cd_Wo D b0 dm ad ce H) (a b : Nat) (hd : dm a b) (t0 : Nat) {cA : ClassId} {n : Nat} {f : Nat → Int32} (he : ce a b = .inl (cA, n, .inl f)) (ht : tys[t0]? = some (cA, .int)) {i : Int32} (hin : vp_in i n) (hdg : decode cc pc = .ok (.iaload, 1))
    (kk : W p l e R s m args below meth c H locs cells slots Q (F0 m (pc + 1) ls (.int (f i.toNatClampNeg) :: rest))) : W p l e R s m args below meth c H locs cells slots Q (F0 m pc ls (.int i :: .ref (ad a b) :: rest)) :=
  va_iald hexec hb hK (hW.one hd he) 0 t0 rfl ht hin hdg kk
theorem cd_lald (hexec : p.tables.exec = Jvm.exec) (hb : c.code = cc) (hK : va_K D classes tys s) (hW : cd_Wo D b0 dm ad ce H) (a b : Nat) (hd : dm a b) (t0 : Nat) {cA : ClassId} {n : Nat} {f : Nat → Int64} (he : ce a b = .inl (cA, n, .inr (.inl f))) (ht : tys[t0]? = some (cA, .long)) {i : Int32} (hin : vp_in i n) (hdg : decode cc pc = .ok (.laload, 1))
    (kk : W p l e R s m args below meth c H locs cells slots Q (F0 m (pc + 1) ls (.long (f i.toNatClampNeg) :: rest))) : W p l e R s m args below meth c H locs cells slots Q (F0 m pc ls (.int i :: .ref (ad a b) :: rest)) :=
  va_lald hexec hb hK (hW.one hd he) 0 t0 rfl ht hin hdg kk
theorem cd_zald (hexec : p.tables.exec = Jvm.exec) (hb : c.code = cc) (hK : va_K D classes tys s) (hW : cd_Wo D b0 dm ad ce H) (a b : Nat) (hd : dm a b) (t0 : Nat) {cA : ClassId} {n : Nat} {f : Nat → Int32} (he : ce a b = .inl (cA, n, .inl f)) (ht : tys[t0]? = some (cA, .boolean)) {i : Int32} (hin : vp_in i n) (hdg : decode cc pc = .ok (.baload, 1))
    (kk : W p l e R s m args below meth c H locs cells slots Q (F0 m (pc + 1) ls (.int (f i.toNatClampNeg) :: rest))) : W p l e R s m args below meth c H locs cells slots Q (F0 m pc ls (.int i :: .ref (ad a b) :: rest)) :=
  va_zald hexec hb hK (hW.one hd he) 0 t0 rfl ht hin hdg kk
theorem cd_aald (hexec : p.tables.exec = Jvm.exec) (hb : c.code = cc) (hK : va_K D classes tys s) (hW : cd_Wo D b0 dm ad ce H) (a b : Nat) (hd : dm a b) (t0 : Nat) {cA : ClassId} {C : String} {n : Nat} {f : Nat → Option Nat} (he : ce a b = .inl (cA, n, .inr (.inr (.inr (.inr f))))) (ht : tys[t0]? = some (cA, .object C)) {i : Int32} (hin : vp_in i n) (hdg : decode cc pc = .ok (.aaload, 1))
    (kk : W p l e R s m args below meth c H locs cells slots Q (F0 m (pc + 1) ls (va_rf (f i.toNatClampNeg) :: rest))) : W p l e R s m args below meth c H locs cells slots Q (F0 m pc ls (.int i :: .ref (ad a b) :: rest)) :=
  va_aldq hexec hb hK (hW.one hd he) 0 t0 rfl ht hin hdg kk
theorem cd_alen (hexec : p.tables.exec = Jvm.exec) (hb : c.code = cc) (hK : va_K D classes tys s) (hW : cd_Wo D b0 dm ad ce H) (a b : Nat) (hd : dm a b) (t0 : Nat) {cA : ClassId} {ty : FieldType} {n : Nat} {f : Nat → Int32} (he : ce a b = .inl (cA, n, .inl f)) (ht : tys[t0]? = some (cA, ty)) (hdg : decode cc pc = .ok (.arraylength, 1))
    (kk : W p l e R s m args below meth c H locs cells slots Q (F0 m (pc + 1) ls (.int (Int32.ofNat n) :: rest))) : W p l e R s m args below meth c H locs cells slots Q (F0 m pc ls (.ref (ad a b) :: rest)) :=
  W.alen (n := Int32.ofNat n) hexec hb ((hW.one hd he) 0 _ rfl) ((hK.2 t0 _ ht).1 n (fun j => .int (f j))) (by rw [vp_cell_i, arrV_size] <;> rfl) rfl rfl hdg kk
theorem cd_iast (hexec : p.tables.exec = Jvm.exec) (hb : c.code = cc) (hK : va_K D classes tys s) (hW : cd_Wo D b0 dm ad ce H) (hS : va_S (cd_A b0) s.heap H locs) (a b : Nat) (hd : dm a b) (t0 : Nat) {cA : ClassId} {n : Nat} {f : Nat → Int32} (he : ce a b = .inl (cA, n, .inl f)) (ht : tys[t0]? = some (cA, .int)) {i x : Int32} (hin : vp_in i n) (hdg : decode cc pc = .ok (.iastore, 1))
    (ce' : Nat → Nat → va_E) (h1 : ce' a b = .inl (cA, n, .inl (upd f i.toNatClampNeg x))) (h2 : ∀ x y, dm x y → ¬ (x = a ∧ y = b) → ce' x y = ce x y)
    (kk : ∀ (H1 : Heap) (locs1 : List Loc), cd_Wo D b0 dm ad ce' H1 → va_S (cd_A b0) s.heap H1 locs1 → W p l e R s m args below meth c H1 locs1 cells slots Q (F0 m (pc + 1) ls rest)) : W p l e R s m args below meth c H locs cells slots Q (F0 m pc ls (.int x :: .int i :: .ref (ad a b) :: rest)) := by
  refine W.iast hexec hb ((hW.one hd he) 0 _ rfl) ((hK.2 t0 _ ht).1 n (fun j => .int (f j))) (fun q => by cases q) (by show ¬ (i < 0 ∨ (arrV _ _ _).slots.size ≤ _); rw [arrV_size]; exact hin) rfl rfl hdg fun H1 e z oq => ?_
  refine kk H1 _ (hW.set hd ?_ oq h1 h2) (hS.put z oq (hW.1 a b hd).1)
  show H1[ad a b]? = some (vp_cell _ _)
  rw [e]
  rw [vp_cell_i, vp_cell_i, arrV_store]
  congr 2
  funext q
  by_cases hq : q = i.toNatClampNeg
  · subst hq
    simp [updV, upd]
  · simp [updV, upd, hq]
theorem cd_last (hexec : p.tables.exec = Jvm.exec) (hb : c.code = cc) (hK : va_K D classes tys s) (hW : cd_Wo D b0 dm ad ce H) (hS : va_S (cd_A b0) s.heap H locs) (a b : Nat) (hd : dm a b) (t0 : Nat) {cA : ClassId} {n : Nat} {f : Nat → Int64} (he : ce a b = .inl (cA, n, .inr (.inl f))) (ht : tys[t0]? = some (cA, .long)) {i : Int32} {x : Int64} (hin : vp_in i n) (hdg : decode cc pc = .ok (.lastore, 1))
    (ce' : Nat → Nat → va_E) (h1 : ce' a b = .inl (cA, n, .inr (.inl (vp_updL f i.toNatClampNeg x)))) (h2 : ∀ x y, dm x y → ¬ (x = a ∧ y = b) → ce' x y = ce x y)
    (kk : ∀ (H1 : Heap) (locs1 : List Loc), cd_Wo D b0 dm ad ce' H1 → va_S (cd_A b0) s.heap H1 locs1 → W p l e R s m args below meth c H1 locs1 cells slots Q (F0 m (pc + 1) ls rest)) : W p l e R s m args below meth c H locs cells slots Q (F0 m pc ls (.long x :: .int i :: .ref (ad a b) :: rest)) := by
  refine W.last hexec hb ((hW.one hd he) 0 _ rfl) ((hK.2 t0 _ ht).1 n (fun j => .long (f j))) (fun q => by cases q) (by show ¬ (i < 0 ∨ (arrV _ _ _).slots.size ≤ _); rw [arrV_size]; exact hin) rfl rfl hdg fun H1 e z oq => ?_
  refine kk H1 _ (hW.set hd ?_ oq h1 h2) (hS.put z oq (hW.1 a b hd).1)
  show H1[ad a b]? = some (vp_cell _ _)
  rw [e]
  rw [vp_cell_l, vp_cell_l, arrV_store]
  congr 2
  funext q
  by_cases hq : q = i.toNatClampNeg
  · subst hq
    simp [updV, vp_updL]
  · simp [updV, vp_updL, hq]
theorem cd_zast (hexec : p.tables.exec = Jvm.exec) (hb : c.code = cc) (hK : va_K D classes tys s) (hW : cd_Wo D b0 dm ad ce H) (hS : va_S (cd_A b0) s.heap H locs) (a b : Nat) (hd : dm a b) (t0 : Nat) {cA : ClassId} {n : Nat} {f : Nat → Int32} (he : ce a b = .inl (cA, n, .inl f)) (ht : tys[t0]? = some (cA, .boolean)) {i x : Int32} (hin : vp_in i n) (hdg : decode cc pc = .ok (.bastore, 1))
    (ce' : Nat → Nat → va_E) (h1 : ce' a b = .inl (cA, n, .inl (upd f i.toNatClampNeg (vp_nar .boolean x)))) (h2 : ∀ x y, dm x y → ¬ (x = a ∧ y = b) → ce' x y = ce x y)
    (kk : ∀ (H1 : Heap) (locs1 : List Loc), cd_Wo D b0 dm ad ce' H1 → va_S (cd_A b0) s.heap H1 locs1 → W p l e R s m args below meth c H1 locs1 cells slots Q (F0 m (pc + 1) ls rest)) : W p l e R s m args below meth c H locs cells slots Q (F0 m pc ls (.int x :: .int i :: .ref (ad a b) :: rest)) := by
  refine W.zast hexec hb ((hW.one hd he) 0 _ rfl) ((hK.2 t0 _ ht).1 n (fun j => .int (f j))) (fun q => by cases q) (by show ¬ (i < 0 ∨ (arrV _ _ _).slots.size ≤ _); rw [arrV_size]; exact hin) rfl rfl hdg fun H1 e z oq => ?_
  refine kk H1 _ (hW.set hd ?_ oq h1 h2) (hS.put z oq (hW.1 a b hd).1)
  show H1[ad a b]? = some (vp_cell _ _)
  rw [e]
  rw [vp_cell_i, vp_cell_i, arrV_store]
  congr 2
  funext q
  by_cases hq : q = i.toNatClampNeg
  · subst hq
    simp [updV, upd, vp_nar]
    try rfl
  · simp [updV, upd, hq]
theorem cd_aast (hexec : p.tables.exec = Jvm.exec) (hb : c.code = cc) (hK : va_K D classes tys s) (hW : cd_Wo D b0 dm ad ce H) (hS : va_S (cd_A b0) s.heap H locs) (a b : Nat) (hd : dm a b) (t0 : Nat) (a2 b2 : Nat) (hd2 : dm a2 b2) (ci : Nat) {cA : ClassId} {r : vw_C} {n : Nat} {vs : List Value} {f : Nat → Option Nat} (he : ce a b = .inl (cA, n, .inr (.inr (.inr (.inr f))))) (ht : tys[t0]? = some (cA, .object r.1)) (hv : ce a2 b2 = .inr (ci, vs)) (hc : classes[ci]? = some r) {i : Int32} (hin : vp_in i n) (hdg : decode cc pc = .ok (.aastore, 1))
    (ce' : Nat → Nat → va_E) (h1 : ce' a b = .inl (cA, n, .inr (.inr (.inr (.inr (va_up f i.toNatClampNeg (some (ad a2 b2)))))))) (h2 : ∀ x y, dm x y → ¬ (x = a ∧ y = b) → ce' x y = ce x y)
    (kk : ∀ (H1 : Heap) (locs1 : List Loc), cd_Wo D b0 dm ad ce' H1 → va_S (cd_A b0) s.heap H1 locs1 → W p l e R s m args below meth c H1 locs1 cells slots Q (F0 m (pc + 1) ls rest)) : W p l e R s m args below meth c H locs cells slots Q (F0 m pc ls (.ref (ad a2 b2) :: .int i :: .ref (ad a b) :: rest)) := by
  have hlt : i.toNatClampNeg < n := Nat.not_le.mp fun q => hin (Or.inr q)
  have h0 : ¬ i < 0 := fun q => hin (Or.inl q)
  obtain ⟨r', hr', cellV, g1, g2, g3, -⟩ := (hW.one hd2 hv) 0 _ rfl
  have hcls := (hK.1 ci r hc).2
  obtain ⟨kA, comp, k1, k2, k3, -⟩ := (hK.2 t0 _ ht).2
  have hcomp : comp = D.1 ci := Option.some.inj (k3.symm.trans hcls.1)
  subst hcomp
  obtain ⟨kC, hkC, -⟩ := hcls.2
  refine W.aast hexec hb ((hW.one hd he) 0 _ rfl) (fun q h => by cases h) (fun h => by cases h) k1 k2 rfl hkC ⟨h0, by show _ < (arrV _ _ _).slots.size; rw [arrV_size]; exact hlt⟩ g1 (fun q h => by rw [g3] at h; cases h) (by rw [g2]; exact hkC) (by rw [g2]; exact va_assign hcls) rfl rfl hdg fun H1 e z oq => ?_
  refine kk H1 _ (hW.set hd ?_ oq h1 h2) (hS.put z oq (hW.1 a b hd).1)
  show H1[ad a b]? = some (vp_cell _ _)
  rw [e]
  rw [vp_cell_q, vp_cell_q, arrV_store]
  congr 2
  funext q
  by_cases hq : q = i.toNatClampNeg
  · subst hq
    simp [updV, va_up, va_rf]
  · simp [updV, va_up, hq]
/-- new objects and arrays: the address is some q that no name has; the world behind it is yours to write down -/
theorem cd_new (hexec : p.tables.exec = Jvm.exec) (hb : c.code = cc) {own C : String} {T : u_T} {N ci index : Nat} {Ts : List Cond} (hts : ∀ w ∈ Ts, w.before args s = true) (hin : ∀ w ∈ u_ws C T N, w ∈ Ts) (ty : Nat → FieldType) (hty : ∀ k, k < N → parseFieldDescriptor (T k).2.2.1 = some (ty k)) (hown : s.vm.findClass own = some m.cls) (hcl : Cond.classLink own index C ∈ Ts) (hinst : Cond.instantiable C N ∈ Ts) (hini : Cond.initialized C ∈ Ts)
    (hK : va_K D classes tys s) (hb0 : b0 ≤ s.heap.size) (hW : cd_Wo D b0 dm ad ce H) (hS : va_S (cd_A b0) s.heap H locs) (hc : classes[ci]? = some (C, T, N)) {fs : List Value} (hfs : ∀ j, j < N → defaultValue (ty j) = vp_V fs j) (hcells : cells + 1 ≤ R.cells) (hslots : slots + N ≤ R.slots) (hdg : decode cc pc = .ok (.new index, 3))
    (a b : Nat) (dm' : Nat → Nat → Prop) (ad' : Nat → Nat → Nat → Nat) (ce' : Nat → Nat → Nat → va_E) (h1 : ∀ q, ad' q a b = q) (h2 : ∀ q, ce' q a b = .inr (ci, fs)) (h3 : ∀ q x y, dm' x y → (x = a ∧ y = b) ∨ (dm x y ∧ ad' q x y = ad x y ∧ ce' q x y = ce x y))
    (kk : ∀ (q : Nat) (H1 : Heap), cd_Wo D b0 dm' (ad' q) (ce' q) H1 → va_S (cd_A b0) s.heap H1 locs → W p l e R s m args below meth c H1 locs (cells + 1) (slots + N) Q (F0 m (pc + 3) ls (.ref q :: rest))) : W p l e R s m args below meth c H locs cells slots Q (F0 m pc ls rest) := by
  have hKn := hK.1 ci _ hc
  refine W.newcK hexec hb hown (hts _ hcl) (hts _ hinst) (hts _ hini) rfl hdg hcells hslots hKn.2.1 rfl fun H1 kC hkC e1 z1 o1 => ?_
  have hbq : b0 ≤ H.size := Nat.le_trans hb0 hS.1
  refine kk H.size H1 (hW.new o1 (Nat.le_refl _) hbq a b (e := .inr (ci, fs)) ⟨_, hc, (u_born ty hts hin hKn hkC e1 hty).to hfs⟩ (h1 _) (h2 _) (h3 _)) ⟨Nat.le_trans hS.1 (by omega), fun x g1 g2 => (o1 x (Nat.lt_of_lt_of_le g1 hS.1)).trans (hS.2.1 x g1 g2), hS.2.2⟩
theorem cd_newa (hexec : p.tables.exec = Jvm.exec) (hb : c.code = cc) {atype : ArrayType} {Ts : List Cond} (hts : ∀ w ∈ Ts, w.before args s = true) {ty : FieldType} (harr : Cond.arrayClass ty ∈ Ts) (hty : newarray.typeOf atype = ty) (hK : va_K D classes tys s) (hb0 : b0 ≤ s.heap.size) (hW : cd_Wo D b0 dm ad ce H) (hS : va_S (cd_A b0) s.heap H locs) (t0 : Nat) {cA : ClassId} (ht : tys[t0]? = some (cA, ty)) (hnr : ∀ C, ty ≠ .object C)
    {n : Int32} {N' : Nat} {a0 : vp_A} (ha : ∀ cA : ClassId, vp_cell cA a0 = arrV cA N' (fun _ => defaultValue ty)) (hn : ¬ n < 0) (hN : n.toNatClampNeg = N') (hbytes : N' * componentBytes ty ≤ 536870912) (hcells : cells + 1 ≤ R.cells) (hslots : slots + N' ≤ R.slots) (hdg : decode cc pc = .ok (.newarray atype, 2))
    (a b : Nat) (dm' : Nat → Nat → Prop) (ad' : Nat → Nat → Nat → Nat) (ce' : Nat → Nat → Nat → va_E) (h1 : ∀ q, ad' q a b = q) (h2 : ∀ q, ce' q a b = .inl (cA, a0)) (h3 : ∀ q x y, dm' x y → (x = a ∧ y = b) ∨ (dm x y ∧ ad' q x y = ad x y ∧ ce' q x y = ce x y))
    (kk : ∀ (q : Nat) (H1 : Heap), cd_Wo D b0 dm' (ad' q) (ce' q) H1 → va_S (cd_A b0) s.heap H1 locs → W p l e R s m args below meth c H1 locs (cells + 1) (slots + N') Q (F0 m (pc + 2) ls (.ref q :: rest))) : W p l e R s m args below meth c H locs cells slots Q (F0 m pc ls (.int n :: rest)) := by
  subst hty
  refine va_newaK hexec hb (hts _ harr) rfl hdg rfl hn hN hbytes hcells hslots rfl fun H1 cA1 e1 z1 o1 hAr hNm => ?_
  have hbq : b0 ≤ H.size := Nat.le_trans hb0 hS.1
  have hcA : cA1 = cA := by
    have g := (hK.2 t0 _ ht).2
    cases atype <;> exact Option.some.inj (hNm.symm.trans g)
  subst hcA
  refine kk H.size H1 (hW.new o1 (Nat.le_refl _) hbq a b (e := .inl (cA1, a0)) ?_ (h1 _) (h2 _) (h3 _)) ⟨Nat.le_trans hS.1 (by omega), fun x g1 g2 => (o1 x (Nat.lt_of_lt_of_le g1 hS.1)).trans (hS.2.1 x g1 g2), hS.2.2⟩
  show H1[H.size]? = some (vp_cell _ _)
  rw [ha]
  exact e1
theorem cd_newq (hexec : p.tables.exec = Jvm.exec) (hb : c.code = cc) {own C : String} {index : Nat} {Ts : List Cond} (hts : ∀ w ∈ Ts, w.before args s = true) (hown : s.vm.findClass own = some m.cls) (hclink : Cond.classLink own index C ∈ Ts) (hE : cd_EV D tys s) (hover : C ∈ cd_aos) (hb0 : b0 ≤ s.heap.size) (hW : cd_Wo D b0 dm ad ce H) (hS : va_S (cd_A b0) s.heap H locs) (t0 : Nat) {cA : ClassId} (ht : tys[t0]? = some (cA, .object C))
    {n : Int32} {N' : Nat} (hn : ¬ n < 0) (hN : n.toNatClampNeg = N') (hbytes : N' * 4 ≤ 536870912) (hcells : cells + 1 ≤ R.cells) (hslots : slots + N' ≤ R.slots) (hdg : decode cc pc = .ok (.anewarray index, 3))
    (a b : Nat) (dm' : Nat → Nat → Prop) (ad' : Nat → Nat → Nat → Nat) (ce' : Nat → Nat → Nat → va_E) (h1 : ∀ q, ad' q a b = q) (h2 : ∀ q, ce' q a b = .inl (cA, N', .inr (.inr (.inr (.inr (fun _ => none)))))) (h3 : ∀ q x y, dm' x y → (x = a ∧ y = b) ∨ (dm x y ∧ ad' q x y = ad x y ∧ ce' q x y = ce x y))
    (kk : ∀ (q : Nat) (H1 : Heap), cd_Wo D b0 dm' (ad' q) (ce' q) H1 → va_S (cd_A b0) s.heap H1 locs → W p l e R s m args below meth c H1 locs (cells + 1) (slots + N') Q (F0 m (pc + 3) ls (.ref q :: rest))) : W p l e R s m args below meth c H locs cells slots Q (F0 m pc ls (.int n :: rest)) := by
  subst hN
  refine W.anew hexec hb hown (hts _ hclink) (va_AO.use (hE.2.2 C hover)) rfl hdg rfl hn hbytes hcells hslots fun cA1 kA comp f1 f2 f3 f4 => ?_
  generalize hH1 : H.push ({ cls := cA1, slots := Array.replicate n.toNatClampNeg .null, vm := .none } : Cell) = H1
  have z1 : H1.size = H.size + 1 := by rw [← hH1, Array.size_push]
  have e1 : H1[H.size]? = some (arrV cA1 n.toNatClampNeg (fun _ => .null)) := by rw [← hH1, Array.getElem?_push_size, ← arrV_new]
  have o1 : ∀ q : Nat, q < H.size → H1[q]? = H[q]? := fun q hq => by rw [← hH1, Array.getElem?_push, if_neg (Nat.ne_of_lt hq)]
  have hbq : b0 ≤ H.size := Nat.le_trans hb0 hS.1
  have hcA : cA1 = cA := by
    obtain ⟨kA', comp', _, _, _, g4⟩ := (hE.1.2 t0 _ ht).2
    exact Option.some.inj (f1.symm.trans g4)
  subst hcA
  refine kk H.size H1 (hW.new o1 (Nat.le_refl _) hbq a b (e := .inl (cA1, n.toNatClampNeg, .inr (.inr (.inr (.inr (fun _ => none)))))) ?_ (h1 _) (h2 _) (h3 _)) ⟨Nat.le_trans hS.1 (by omega), fun x g1 g2 => (o1 x (Nat.lt_of_lt_of_le g1 hS.1)).trans (hS.2.1 x g1 g2), hS.2.2⟩
  show H1[H.size]? = some (vp_cell _ _)
  rw [vp_cell_q]
  exact e1
/-! returns -/
variable {Qr : cd_R} {mc ms : Nat}
theorem cd_iret (hexec : p.tables.exec = Jvm.exec) (hb : c.code = cc) (hr : meth.sig.returnType = some .int) (hlocks : meth.locks = false) (hW : cd_Wo D b0 dm ad ce H) (hS : va_S (cd_A b0) s.heap H locs) {v : Int32} (hdg : decode cc pc = .ok (.ireturn, 1)) (hq : Qr (some (.int v)) dm ad ce) (hc : cells ≤ mc) (hs : slots ≤ ms) :
    W p l e R s m args below meth c H locs cells slots (MQ below (cd_Q D b0 Qr) args s mc ms (cd_A b0)) (F0 m pc ls [.int v]) :=
  W.widen hc hs (W.iret hexec hb hr (fun t ht _ => ⟨⟨_, dm, ad, ce, rfl, hq, by rw [ht]; exact hW⟩, hS.F ht⟩) hS.2.2 hdg hlocks)
theorem cd_zret (hexec : p.tables.exec = Jvm.exec) (hb : c.code = cc) (hr : meth.sig.returnType = some .boolean) (hlocks : meth.locks = false) (hW : cd_Wo D b0 dm ad ce H) (hS : va_S (cd_A b0) s.heap H locs) {v : Int32} (hdg : decode cc pc = .ok (.ireturn, 1)) (hn : narrow .boolean (.int v) = .int v) (hq : Qr (some (.int v)) dm ad ce) (hc : cells ≤ mc) (hs : slots ≤ ms) :
    W p l e R s m args below meth c H locs cells slots (MQ below (cd_Q D b0 Qr) args s mc ms (cd_A b0)) (F0 m pc ls [.int v]) :=
  W.widen hc hs (W.zret hexec hb hr hn (fun t ht _ => ⟨⟨_, dm, ad, ce, rfl, hq, by rw [ht]; exact hW⟩, hS.F ht⟩) hS.2.2 hdg hlocks)
theorem cd_lret (hexec : p.tables.exec = Jvm.exec) (hb : c.code = cc) (hr : meth.sig.returnType = some .long) (hlocks : meth.locks = false) (hW : cd_Wo D b0 dm ad ce H) (hS : va_S (cd_A b0) s.heap H locs) {v : Int64} (hdg : decode cc pc = .ok (.lreturn, 1)) (hq : Qr (some (.long v)) dm ad ce) (hc : cells ≤ mc) (hs : slots ≤ ms) :
    W p l e R s m args below meth c H locs cells slots (MQ below (cd_Q D b0 Qr) args s mc ms (cd_A b0)) (F0 m pc ls [.long v]) :=
  W.widen hc hs (W.lret hexec hb hr (fun t ht _ => ⟨⟨_, dm, ad, ce, rfl, hq, by rw [ht]; exact hW⟩, hS.F ht⟩) hS.2.2 hdg hlocks)
theorem cd_vret (hexec : p.tables.exec = Jvm.exec) (hb : c.code = cc) (hr : meth.sig.returnType = none) (hlocks : meth.locks = false) (hW : cd_Wo D b0 dm ad ce H) (hS : va_S (cd_A b0) s.heap H locs) (hdg : decode cc pc = .ok (.return_, 1)) (hq : Qr none dm ad ce) (hc : cells ≤ mc) (hs : slots ≤ ms) :
    W p l e R s m args below meth c H locs cells slots (MQ below (cd_Q D b0 Qr) args s mc ms (cd_A b0)) (F0 m pc ls []) :=
  W.widen hc hs (W.vret hexec hb hr (fun t ht _ => ⟨⟨_, dm, ad, ce, rfl, hq, by rw [ht]; exact hW⟩, hS.F ht⟩) hS.2.2 hdg hlocks)
theorem cd_aret (hexec : p.tables.exec = Jvm.exec) (hb : c.code = cc) {C : String} (hr : meth.sig.returnType = some (.object C)) (hlocks : meth.locks = false) (hW : cd_Wo D b0 dm ad ce H) (hS : va_S (cd_A b0) s.heap H locs) {v : Value} (hv : v = .null ∨ ∃ a, v = .ref a) (hdg : decode cc pc = .ok (.areturn, 1)) (hq : Qr (some v) dm ad ce) (hc : cells ≤ mc) (hs : slots ≤ ms) :
    W p l e R s m args below meth c H locs cells slots (MQ below (cd_Q D b0 Qr) args s mc ms (cd_A b0)) (F0 m pc ls [v]) :=
  W.widen hc hs (W.aret hexec hb hr (Or.inl ⟨C, rfl⟩) hv (fun t ht _ => ⟨⟨_, dm, ad, ce, rfl, hq, by rw [ht]; exact hW⟩, hS.F ht⟩) hS.2.2 hdg hlocks)
/-! calls -/
variable {a0 : Array Value} {st0 : List Value}
theorem cd_go (hS : va_S (cd_A b0) s.heap H locs) (hr : va_Run p l e R s m args below meth c H locs cells slots mc ms (F0 m pc ls st0) rest (cd_Q D b0 Qr a0) (cd_A b0))
    (kk : ∀ (v : Option Value) (dm' : Nat → Nat → Prop) (ad' : Nat → Nat → Nat) (ce' : Nat → Nat → va_E) (H1 : Heap) (locs1 : List Loc), Qr v dm' ad' ce' → cd_Wo D b0 dm' ad' ce' H1 → va_S (cd_A b0) s.heap H1 locs1 → W p l e R s m args below meth c H1 locs1 (cells + mc) (slots + ms) Q (F0 m (pc + 3) ls (v.toList ++ rest))) : W p l e R s m args below meth c H locs cells slots Q (F0 m pc ls st0) := by
  intro T hT X
  obtain ⟨v, st₀, t, T', L, h0, X', hL, e1, e2, ⟨⟨v', dm', ad', ce', hv, hp, hb⟩, hz, hk⟩, st⟩ := hr T hT X
  cases hv
  rw [h0] at hz hk
  obtain ⟨t2, a1, b1⟩ := kk v dm' ad' ce' T'.heap (locs ++ L) hp (by rw [e1]; exact hb)
    ⟨Nat.le_trans hS.1 (by rw [e1]; exact hz), fun q h1 h2 => by rw [e1, hk q (Nat.lt_of_lt_of_le h1 hS.1) h2]; exact hS.2.1 q h1 h2, fun q hq => by
      rcases List.mem_append.mp hq with h | h
      · exact hS.2.2 q h
      · exact hL q h⟩ T' rfl X'
  exact ⟨t2, st t2 a1, b1⟩
theorem cd_pre {av : List Value} (hE : cd_EV D tys s) (hb0 : b0 ≤ s.heap.size) (hW : cd_Wo D b0 dm ad ce H) (hS : va_S (cd_A b0) s.heap H locs) : ∀ U : State, U.heap = H → s.WarmedH U.vm → va_Pc av (cd_P D tys b0 dm ad ce) av.toArray U :=
  fun U hU hWm => ⟨rfl, hE.warm hWm, by rw [hU]; exact Nat.le_trans hb0 hS.1, by rw [hU]; exact hW⟩
variable {nL maxL n index ci : Nat} {own C host : String} {y : MethodName} {bytes : ByteArray} {ret : Option FieldType} {rm : Room} {As : List Value} {Ts : List Cond} {q : vw_C} {fs : List Value}
/-- virtual, by a link of the class's own -/
theorem cd_cV (S : CallFix p m c cc nL s args Ts own) (hG : GoodIn Ts (Cond.code y bytes maxL ret :: cd_WA)) (hE : cd_EV D tys s) (hb0 : b0 ≤ s.heap.size) (hW : cd_Wo D b0 dm ad ce H) (hS : va_S (cd_A b0) s.heap H locs) (a b : Nat) (hd : dm a b) (he : ce a b = .inr (ci, fs)) (hc : classes[ci]? = some q)
    (hM : cd_Ct l D tys b0 y (Cond.code y bytes maxL ret :: cd_WA) rm (.ref (ad a b) :: As) dm ad ce Qr mc ms) (hl : Cond.methodLink own index y ∈ Ts) (hin : Cond.instanceMethod y ∈ Ts) (hsel : Cond.selects q.1 y y ∈ Ts) (hini : Cond.initialized y.cls ∈ Ts)
    (hy : y.cls ≠ "java/lang/invoke/MethodHandle" ∧ y.cls ≠ "java/lang/invoke/VarHandle" ∧ (parseMethodDescriptor y.desc).map (fun d => d.parameters.length) = some n) (hrc : rm.cells = mc) (hrs : rm.slots = ms) (hR : rm.frames + 1 ≤ R.frames ∧ 8 + (maxL + 11) + rm.locals ≤ R.locals)
    (hn : As.length = n) (hsize : ls.size = nL) (hst : st0 = As.reverse ++ .ref (ad a b) :: rest) (hro : (rest.map fun v => v.category).sum ≤ 8) (hdg : decode cc pc = .ok (.invokevirtual index, 3)) (hf : cells + mc ≤ R.cells ∧ slots + ms ≤ R.slots)
    (kk : ∀ (v : Option Value) (dm' : Nat → Nat → Prop) (ad' : Nat → Nat → Nat) (ce' : Nat → Nat → va_E) (H1 : Heap) (locs1 : List Loc), Qr v dm' ad' ce' → cd_Wo D b0 dm' ad' ce' H1 → va_S (cd_A b0) s.heap H1 locs1 → W p l e R s m args below meth c H1 locs1 (cells + mc) (slots + ms) Q (F0 m (pc + 3) ls (v.toList ++ rest))) : W p l e R s m args below meth c H locs cells slots Q (F0 m pc ls st0) := by
  have ht := S.2.2.2.2
  refine cd_go hS (va_runV S hM ⟨callB_of n ht hG rfl hrc hrs (ht _ hini) (ht _ hl) hy hR, ht _ hin, ht _ hsel⟩ ⟨cd_blind, va_recv hE.1 (hW.one hd he) hc (q0 := 0) rfl, cd_pre hE hb0 hW hS⟩ rfl hn hsize hst (lv_room hro) hdg hf) kk
/-- virtual, a nest mate's -/
theorem cd_cVN (S : CallFix p m c cc nL s args Ts own) (hG : GoodIn Ts (Cond.code y bytes maxL ret :: cd_WA)) (hE : cd_EV D tys s) (hb0 : b0 ≤ s.heap.size) (hW : cd_Wo D b0 dm ad ce H) (hS : va_S (cd_A b0) s.heap H locs) (a b : Nat) (hd : dm a b) (he : ce a b = .inr (ci, fs)) (hc : classes[ci]? = some q)
    (hM : cd_Ct l D tys b0 y (Cond.code y bytes maxL ret :: cd_WA) rm (.ref (ad a b) :: As) dm ad ce Qr mc ms) (hl : Cond.methodLinkNest own index y host ∈ cd_nest) (hin : Cond.instanceMethod y ∈ Ts) (hsel : Cond.selects q.1 y y ∈ Ts) (hini : Cond.initialized y.cls ∈ Ts)
    (hy : y.cls ≠ "java/lang/invoke/MethodHandle" ∧ y.cls ≠ "java/lang/invoke/VarHandle" ∧ (parseMethodDescriptor y.desc).map (fun d => d.parameters.length) = some n) (hrc : rm.cells = mc) (hrs : rm.slots = ms) (hR : rm.frames + 1 ≤ R.frames ∧ 8 + (maxL + 11) + rm.locals ≤ R.locals)
    (hn : As.length = n) (hsize : ls.size = nL) (hst : st0 = As.reverse ++ .ref (ad a b) :: rest) (hro : (rest.map fun v => v.category).sum ≤ 8) (hdg : decode cc pc = .ok (.invokevirtual index, 3)) (hf : cells + mc ≤ R.cells ∧ slots + ms ≤ R.slots)
    (kk : ∀ (v : Option Value) (dm' : Nat → Nat → Prop) (ad' : Nat → Nat → Nat) (ce' : Nat → Nat → va_E) (H1 : Heap) (locs1 : List Loc), Qr v dm' ad' ce' → cd_Wo D b0 dm' ad' ce' H1 → va_S (cd_A b0) s.heap H1 locs1 → W p l e R s m args below meth c H1 locs1 (cells + mc) (slots + ms) Q (F0 m (pc + 3) ls (v.toList ++ rest))) : W p l e R s m args below meth c H locs cells slots Q (F0 m pc ls st0) := by
  have ht := S.2.2.2.2
  refine cd_go hS (va_runVN S hM ⟨va_cnB n ht hG rfl hrc hrs (hE.2.1 _ hl) (ht _ hini) hy hR, ht _ hin, ht _ hsel⟩ ⟨cd_blind, va_recv hE.1 (hW.one hd he) hc (q0 := 0) rfl, cd_pre hE hb0 hW hS⟩ rfl hn hsize hst (lv_room hro) hdg hf) kk
theorem cd_cS (S : CallFix p m c cc nL s args Ts own) (hG : GoodIn Ts (Cond.code y bytes maxL ret :: cd_WA)) (hE : cd_EV D tys s) (hb0 : b0 ≤ s.heap.size) (hW : cd_Wo D b0 dm ad ce H) (hS : va_S (cd_A b0) s.heap H locs)
    (hM : cd_Ct l D tys b0 y (Cond.code y bytes maxL ret :: cd_WA) rm As dm ad ce Qr mc ms) (hl : Cond.methodLink own index y ∈ Ts) (hin : Cond.static y ∈ Ts) (hini : Cond.initialized y.cls ∈ Ts)
    (hy : y.cls ≠ "java/lang/invoke/MethodHandle" ∧ y.cls ≠ "java/lang/invoke/VarHandle" ∧ (parseMethodDescriptor y.desc).map (fun d => d.parameters.length) = some n) (hrc : rm.cells = mc) (hrs : rm.slots = ms) (hR : rm.frames + 1 ≤ R.frames ∧ 8 + (maxL + 11) + rm.locals ≤ R.locals)
    (hn : As.length = n) (hsize : ls.size = nL) (hst : st0 = As.reverse ++ rest) (hro : (rest.map fun v => v.category).sum ≤ 8) (hdg : decode cc pc = .ok (.invokestatic index, 3)) (hf : cells + mc ≤ R.cells ∧ slots + ms ≤ R.slots)
    (kk : ∀ (v : Option Value) (dm' : Nat → Nat → Prop) (ad' : Nat → Nat → Nat) (ce' : Nat → Nat → va_E) (H1 : Heap) (locs1 : List Loc), Qr v dm' ad' ce' → cd_Wo D b0 dm' ad' ce' H1 → va_S (cd_A b0) s.heap H1 locs1 → W p l e R s m args below meth c H1 locs1 (cells + mc) (slots + ms) Q (F0 m (pc + 3) ls (v.toList ++ rest))) : W p l e R s m args below meth c H locs cells slots Q (F0 m pc ls st0) := by
  have ht := S.2.2.2.2
  refine cd_go hS (va_runS S hM ⟨callB_of n ht hG rfl hrc hrs (ht _ hini) (ht _ hl) hy hR, ht _ hin⟩ ⟨cd_blind, cd_pre hE hb0 hW hS⟩ rfl hn hsize hst (lv_room hro) hdg hf) kk
theorem cd_cI (S : CallFix p m c cc nL s args Ts own) (hG : GoodIn Ts (Cond.code y bytes maxL none :: cd_WA)) (hE : cd_EV D tys s) (hb0 : b0 ≤ s.heap.size) (hW : cd_Wo D b0 dm ad ce H) (hS : va_S (cd_A b0) s.heap H locs) (b : Nat)
    (hM : cd_Ct l D tys b0 y (Cond.code y bytes maxL none :: cd_WA) rm (.ref b :: As) dm ad ce Qr mc ms) (hl : Cond.methodLink own index y ∈ Ts) (hin : Cond.instanceMethod y ∈ Ts) (hini : Cond.initialized y.cls ∈ Ts) (hy1 : y.name = "<init>")
    (hy : y.cls ≠ "java/lang/invoke/MethodHandle" ∧ y.cls ≠ "java/lang/invoke/VarHandle" ∧ (parseMethodDescriptor y.desc).map (fun d => d.parameters.length) = some n) (hrc : rm.cells = mc) (hrs : rm.slots = ms) (hR : rm.frames + 1 ≤ R.frames ∧ 8 + (maxL + 11) + rm.locals ≤ R.locals)
    (hn : As.length = n) (hsize : ls.size = nL) (hst : st0 = As.reverse ++ .ref b :: rest) (hro : (rest.map fun v => v.category).sum ≤ 8) (hdg : decode cc pc = .ok (.invokespecial index, 3)) (hf : cells + mc ≤ R.cells ∧ slots + ms ≤ R.slots)
    (kk : ∀ (v : Option Value) (dm' : Nat → Nat → Prop) (ad' : Nat → Nat → Nat) (ce' : Nat → Nat → va_E) (H1 : Heap) (locs1 : List Loc), Qr v dm' ad' ce' → cd_Wo D b0 dm' ad' ce' H1 → va_S (cd_A b0) s.heap H1 locs1 → W p l e R s m args below meth c H1 locs1 (cells + mc) (slots + ms) Q (F0 m (pc + 3) ls (v.toList ++ rest))) : W p l e R s m args below meth c H locs cells slots Q (F0 m pc ls st0) := by
  have ht := S.2.2.2.2
  refine cd_go hS (va_runI S hM ⟨callB_of n ht hG rfl hrc hrs (ht _ hini) (ht _ hl) hy hR, hy1, ht _ hin⟩ ⟨cd_blind, cd_pre hE hb0 hW hS⟩ rfl hn hsize hst (lv_room hro) hdg hf) kk
theorem cd_cIN (S : CallFix p m c cc nL s args Ts own) (hG : GoodIn Ts (Cond.code y bytes maxL none :: cd_WA)) (hE : cd_EV D tys s) (hb0 : b0 ≤ s.heap.size) (hW : cd_Wo D b0 dm ad ce H) (hS : va_S (cd_A b0) s.heap H locs) (b : Nat)
    (hM : cd_Ct l D tys b0 y (Cond.code y bytes maxL none :: cd_WA) rm (.ref b :: As) dm ad ce Qr mc ms) (hl : Cond.methodLinkNest own index y host ∈ cd_nest) (hin : Cond.instanceMethod y ∈ Ts) (hini : Cond.initialized y.cls ∈ Ts) (hy1 : y.name = "<init>")
    (hy : y.cls ≠ "java/lang/invoke/MethodHandle" ∧ y.cls ≠ "java/lang/invoke/VarHandle" ∧ (parseMethodDescriptor y.desc).map (fun d => d.parameters.length) = some n) (hrc : rm.cells = mc) (hrs : rm.slots = ms) (hR : rm.frames + 1 ≤ R.frames ∧ 8 + (maxL + 11) + rm.locals ≤ R.locals)
    (hn : As.length = n) (hsize : ls.size = nL) (hst : st0 = As.reverse ++ .ref b :: rest) (hro : (rest.map fun v => v.category).sum ≤ 8) (hdg : decode cc pc = .ok (.invokespecial index, 3)) (hf : cells + mc ≤ R.cells ∧ slots + ms ≤ R.slots)
    (kk : ∀ (v : Option Value) (dm' : Nat → Nat → Prop) (ad' : Nat → Nat → Nat) (ce' : Nat → Nat → va_E) (H1 : Heap) (locs1 : List Loc), Qr v dm' ad' ce' → cd_Wo D b0 dm' ad' ce' H1 → va_S (cd_A b0) s.heap H1 locs1 → W p l e R s m args below meth c H1 locs1 (cells + mc) (slots + ms) Q (F0 m (pc + 3) ls (v.toList ++ rest))) : W p l e R s m args below meth c H locs cells slots Q (F0 m pc ls st0) := by
  have ht := S.2.2.2.2
  refine cd_go hS (va_runIN S hM ⟨va_cnB n ht hG rfl hrc hrs (hE.2.1 _ hl) (ht _ hini) hy hR, hy1, ht _ hin⟩ ⟨cd_blind, cd_pre hE hb0 hW hS⟩ rfl hn hsize hst (lv_room hro) hdg hf) kk
end CDR
