/-! MY FRAME: a world is a set of names (sort a, number b), their addresses ad a b, their cells ce a b. Every contract speaks of the WHOLE world: no cutting out and joining. -/
def cd_Wo (D : va_G) (b0 : Nat) (dm : Nat → Nat → Prop) (ad : Nat → Nat → Nat) (ce : Nat → Nat → va_E) (H : Heap) : Prop :=
  (∀ a b, dm a b → b0 ≤ ad a b ∧ va_at D classes (ad a b, ce a b) H) ∧ ∀ a b a' b', dm a b → dm a' b' → ad a b = ad a' b' → a = a' ∧ b = b'
abbrev cd_A (b0 : Nat) : Nat → Prop := fun q => b0 ≤ q
theorem cd_Wo.one {D : va_G} {b0 : Nat} {dm : Nat → Nat → Prop} {ad : Nat → Nat → Nat} {ce : Nat → Nat → va_E} {H : Heap} (h : cd_Wo D b0 dm ad ce H) {a b : Nat} (hd : dm a b) {x : va_E} (hx : ce a b = x) : va_P D classes [(ad a b, x)] H := by
  intro k q hk
  match k, hk with
  | 0, hk =>
    cases hk
    subst hx
    exact (h.1 a b hd).2
  | k + 1, hk => simp at hk
theorem cd_Wo.set {D : va_G} {b0 : Nat} {dm : Nat → Nat → Prop} {ad : Nat → Nat → Nat} {ce ce' : Nat → Nat → va_E} {H H1 : Heap} (h : cd_Wo D b0 dm ad ce H) {a b : Nat} (hd : dm a b) {e : va_E} (he : va_at D classes (ad a b, e) H1) (oq : ∀ q : Nat, q ≠ ad a b → H1[q]? = H[q]?) (h1 : ce' a b = e) (h2 : ∀ x y, dm x y → ¬ (x = a ∧ y = b) → ce' x y = ce x y) : cd_Wo D b0 dm ad ce' H1 := by
  refine ⟨fun x y hxy => ⟨(h.1 x y hxy).1, ?_⟩, h.2⟩
  by_cases hc : x = a ∧ y = b
  · obtain ⟨rfl, rfl⟩ := hc
    rw [h1]
    exact he
  · rw [h2 x y hxy hc]
    exact (h.1 x y hxy).2.kept (oq _ (fun q => hc (h.2 x y a b hxy hd q)))
theorem cd_Wo.new {D : va_G} {b0 : Nat} {dm dm' : Nat → Nat → Prop} {ad ad' : Nat → Nat → Nat} {ce ce' : Nat → Nat → va_E} {H H1 : Heap} (h : cd_Wo D b0 dm ad ce H) (hk : ∀ q : Nat, q < H.size → H1[q]? = H[q]?) {q : Nat} (hq : H.size ≤ q) (hb : b0 ≤ q) (a b : Nat) {e : va_E} (he : va_at D classes (q, e) H1) (h1 : ad' a b = q) (h2 : ce' a b = e) (h3 : ∀ x y, dm' x y → (x = a ∧ y = b) ∨ (dm x y ∧ ad' x y = ad x y ∧ ce' x y = ce x y)) : cd_Wo D b0 dm' ad' ce' H1 := by
  have lt : ∀ x y, dm x y → ad x y < H.size := fun x y hxy => (h.1 x y hxy).2.lt
  refine ⟨fun x y hxy => ?_, fun x y x' y' hxy hxy' he' => ?_⟩
  · rcases h3 x y hxy with ⟨rfl, rfl⟩ | ⟨g1, g2, g3⟩
    · rw [h1, h2]
      exact ⟨hb, he⟩
    · rw [g2, g3]
      exact ⟨(h.1 x y g1).1, (h.1 x y g1).2.kept (hk _ (lt x y g1))⟩
  · rcases h3 x y hxy with ⟨rfl, rfl⟩ | ⟨g1, g2, g3⟩ <;> rcases h3 x' y' hxy' with ⟨rfl, rfl⟩ | ⟨k1, k2, k3⟩
    · exact ⟨rfl, rfl⟩
    · rw [h1, k2] at he'
      have := lt x' y' k1
      omega
    · rw [h1, g2] at he'
      have := lt x y g1
      omega
    · rw [g2, k2] at he'
      exact h.2 x y x' y' g1 k1 he'
theorem cd_Wo.sub {D : va_G} {b0 : Nat} {dm dm' : Nat → Nat → Prop} {ad ad' : Nat → Nat → Nat} {ce ce' : Nat → Nat → va_E} {H : Heap} (h : cd_Wo D b0 dm ad ce H) (h3 : ∀ x y, dm' x y → dm x y ∧ ad' x y = ad x y ∧ ce' x y = ce x y) : cd_Wo D b0 dm' ad' ce' H := by
  refine ⟨fun x y hxy => ?_, fun x y x' y' hxy hxy' he' => ?_⟩
  · obtain ⟨g1, g2, g3⟩ := h3 x y hxy
    rw [g2, g3]
    exact h.1 x y g1
  · obtain ⟨g1, g2, g3⟩ := h3 x y hxy
    obtain ⟨k1, k2, k3⟩ := h3 x' y' hxy'
    rw [g2, k2] at he'
    exact h.2 x y x' y' g1 k1 he'
/-- the rows' own words: nest mates' links, arrays of references -/
def cd_isN : Cond → Bool
  | .fieldLinkNest .. => true
  | .methodLinkNest .. => true
  | _ => false
theorem cd_nest_ok : ∀ w ∈ cd_nest, cd_isN w = true := by decide +kernel
def cd_EV (D : va_G) (tys : List (ClassId × FieldType)) (U : State) : Prop := va_K D classes tys U ∧ (∀ w ∈ cd_nest, va_Nw w U) ∧ ∀ C ∈ cd_aos, va_AO C U
theorem cd_Nw_warm {w : Cond} (h : cd_isN w = true) {s U : State} (hW : s.WarmedH U.vm) (hZ : va_Nw w s) : va_Nw w U := by
  cases w <;> first | exact va_Nw.warmF hW hZ | exact va_Nw.warmM hW hZ | (simp [cd_isN] at h; done)
theorem cd_EV.warm {D : va_G} {tys : List (ClassId × FieldType)} {s U : State} (hW : s.WarmedH U.vm) (h : cd_EV D tys s) : cd_EV D tys U :=
  ⟨h.1.moved hW.alike, fun w hw => cd_Nw_warm (cd_nest_ok w hw) hW (h.2.1 w hw), fun C hC => (h.2.2 C hC).moved hW.alike⟩
theorem cd_isN_tab {w : Cond} (h : cd_isN w = true) : w.onTables = true := by
  cases w <;> first | rfl | (simp [cd_isN] at h; done)
theorem cd_EV.calling {D : va_G} {tys : List (ClassId × FieldType)} {U : State} (g : JFrame) (mk : MethodId) (a : Array Value) (h : cd_EV D tys U) : cd_EV D tys (U.calling g mk a) :=
  ⟨va_K.moved (u := U) (U := U.calling g mk a) (Vm.Alike.refl U.vm) h.1, fun w hw => va_Nw.same (u := U) (U := U.calling g mk a) (cd_isN_tab (cd_nest_ok w hw)) rfl (h.2.1 w hw), fun C hC => va_AO.moved (u := U) (U := U.calling g mk a) (Vm.Alike.refl U.vm) (h.2.2 C hC)⟩
/-- a contract over the whole world -/
abbrev cd_R : Type := Option Value → (Nat → Nat → Prop) → (Nat → Nat → Nat) → (Nat → Nat → va_E) → Prop
def cd_Q (D : va_G) (b0 : Nat) (Qr : cd_R) : Array Value → State → Outcome → State → Prop := fun _ st oc t =>
  (∃ (v : Option Value) (dm : Nat → Nat → Prop) (ad : Nat → Nat → Nat) (ce : Nat → Nat → va_E), oc = .returned v ∧ Qr v dm ad ce ∧ cd_Wo D b0 dm ad ce t.heap) ∧ va_F (cd_A b0) st t
def cd_P (D : va_G) (tys : List (ClassId × FieldType)) (b0 : Nat) (dm : Nat → Nat → Prop) (ad : Nat → Nat → Nat) (ce : Nat → Nat → va_E) : State → Prop := fun U => cd_EV D tys U ∧ b0 ≤ U.heap.size ∧ cd_Wo D b0 dm ad ce U.heap
def cd_Ct (l : Launch) (D : va_G) (tys : List (ClassId × FieldType)) (b0 : Nat) (y : MethodName) (ws : List Cond) (rm : Room) (av : List Value) (dm : Nat → Nat → Prop) (ad : Nat → Nat → Nat) (ce : Nat → Nat → va_E) (Qr : cd_R) (mc ms : Nat) : Prop :=
  Met l y ws rm (va_Pc av (cd_P D tys b0 dm ad ce)) (cd_Q D b0 Qr) mc ms (cd_A b0)
theorem cd_blind {D : va_G} {tys : List (ClassId × FieldType)} {b0 : Nat} {dm : Nat → Nat → Prop} {ad : Nat → Nat → Nat} {ce : Nat → Nat → va_E} {av : List Value} : FrameBlind (va_Pc av (cd_P D tys b0 dm ad ce)) := by
  intro a U g mk q
  obtain ⟨q0, q1, q2, q3⟩ := q
  exact ⟨q0, q1.calling g mk a, q2, q3⟩
theorem cd_Ct.of {l : Launch} {D : va_G} {tys : List (ClassId × FieldType)} {b0 : Nat} {y : MethodName} {rm : Room} {av : List Value} {dm : Nat → Nat → Prop} {ad : Nat → Nat → Nat} {ce : Nat → Nat → va_E} {Qr : cd_R} {mc ms : Nat} (cc : ByteArray) (maxL : Nat) (ret : Option FieldType) (hy : plainName y.cls = true) (hsl : Nat.ble (lg_sl av).length maxL = true)
    (body : ∀ (p : Program) (e : Env) (s : State) (m : MethodId) (below : List Frame) (meth : Method) (c : Code), p.tables.exec = Jvm.exec → c.code = cc → meth.sig.returnType = ret → c.maxLocals = maxL → s.vm.findClass y.cls = some m.cls → meth.locks = false → meth.name = y.name → (∀ w ∈ cd_WA, w.before av.toArray s = true) → cd_EV D tys s → b0 ≤ s.heap.size → cd_Wo D b0 dm ad ce s.heap → va_S (cd_A b0) s.heap s.heap [] → ∀ ls : Array Slot, lv_has ls maxL (lv_args 0 av) →
      W p l e rm s m av.toArray below meth c s.heap [] 0 0 (MQ below (cd_Q D b0 Qr) av.toArray s mc ms (cd_A b0)) (F0 m 0 ls [])) : cd_Ct l D tys b0 y (Cond.code y cc maxL ret :: cd_WA) rm av dm ad ce Qr mc ms := by
  refine Met.ofW (cc := cc) (maxL := maxL) (ret := ret) hy rfl ?_
  intro p e s m args below meth c s₁ B hml hv
  obtain ⟨rfl, hE, hb0, hW⟩ := hv
  have hts := atoms_spec (ws := Cond.code y cc maxL ret :: cd_WA) B.pre
  have hl := lv_entry av (n := maxL) (Nat.le_of_ble_eq_true hsl)
  rw [lg_entry_eq]
  generalize (lg_sl av ++ List.replicate (maxL - (lg_sl av).length) Slot.unset).toArray = ls at hl ⊢
  exact body p e s m below meth c B.exec B.bytes B.returns hml (findClass_of_methodNamed B.named) B.notSynchronized (name_of_methodNamed B.named B.method).1 (fun w hw => hts w (List.mem_cons_of_mem _ hw)) hE hb0 hW va_S.rf ls hl
/-- the words that all contracts share -/
theorem cd_WA_good : GoodIn lw_tbl cd_WA := fun w h => ⟨(List.mem_filter.mp h).1, good_of_word (List.mem_filter.mp h).2⟩
theorem cd_GA {c1 : Cond} (h : c1 ∈ cd_WA) : GoodIn cd_WA (c1 :: cd_WA) := fun w hw => by
  rcases List.mem_cons.mp hw with rfl | hw
  · exact ⟨h, (cd_WA_good w h).2⟩
  · exact ⟨hw, (cd_WA_good w hw).2⟩
theorem cd_GL {c1 : Cond} (h : c1 ∈ cd_WA) : GoodIn lw_tbl (c1 :: cd_WA) := fun w hw => by
  rcases List.mem_cons.mp hw with rfl | hw
  · exact cd_WA_good w h
  · exact cd_WA_good w hw
