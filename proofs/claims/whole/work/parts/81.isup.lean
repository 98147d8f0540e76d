def ce2 (ce : Nat → Nat → va_E) (a b : Nat) (e : va_E) : Nat → Nat → va_E := fun x y => if x = a ∧ y = b then e else ce x y
def dm2 (dm : Nat → Nat → Prop) (a b : Nat) : Nat → Nat → Prop := fun x y => (x = a ∧ y = b) ∨ dm x y
theorem ce2_s (ce : Nat → Nat → va_E) (a b : Nat) (e : va_E) : ce2 ce a b e a b = e := by simp [ce2]
theorem ce2_n {ce : Nat → Nat → va_E} {a b x y : Nat} {e : va_E} (h : ¬ (x = a ∧ y = b)) : ce2 ce a b e x y = ce x y := by simp only [ce2, if_neg h]
theorem ad2_s (ad : Nat → Nat → Nat) (a b q : Nat) : ad2 ad a b q a b = q := by simp [ad2]
theorem ad2_n {ad : Nat → Nat → Nat} {a b x y q : Nat} (h : ¬ (x = a ∧ y = b)) : ad2 ad a b q x y = ad x y := by simp only [ad2, if_neg h]
theorem ce2_2 {dm : Nat → Nat → Prop} {ce : Nat → Nat → va_E} {a b : Nat} {e e' : va_E} : ∀ x y, dm x y → ¬ (x = a ∧ y = b) → ce2 ce a b e' x y = ce2 ce a b e x y := fun x y _ h => by rw [ce2_n h, ce2_n h]
theorem ce2_1 {dm : Nat → Nat → Prop} {ce : Nat → Nat → va_E} {a b : Nat} {e' : va_E} : ∀ x y, dm x y → ¬ (x = a ∧ y = b) → ce2 ce a b e' x y = ce x y := fun x y _ h => ce2_n h
theorem nu_2 {dm : Nat → Nat → Prop} {ad : Nat → Nat → Nat} {ce : Nat → Nat → va_E} {a b : Nat} {e : va_E} (hn : ¬ dm a b) : ∀ q x y, dm2 dm a b x y → (x = a ∧ y = b) ∨ (dm x y ∧ ad2 ad a b q x y = ad x y ∧ ce2 ce a b e x y = ce x y) := fun q x y h => by
  rcases h with h | h
  · exact Or.inl h
  · have g : ¬ (x = a ∧ y = b) := fun z => hn (by obtain ⟨rfl, rfl⟩ := z; exact h)
    exact Or.inr ⟨h, ad2_n g, ce2_n g⟩
/-- the class's world while it is made: t trays, s of its three arrays, n shelves, na of them in the array of shelves; fs the desk's fields -/
def cx_0 : cx_S := (fun _ => 0, fun _ => 0, fun _ _ => 0, fun _ => 0, fun _ => 0, fun _ => 0, fun _ _ => none, fun _ => 0, fun _ => 0, fun _ => 0, fun _ => 0, fun _ => none, fun _ => False)
def ci_ce (dA : Nat → ClassId) (ad : Nat → Nat → Nat) (fs : List Value) (na : Nat) (cr : Nat → Nat → va_E) : Nat → Nat → va_E := fun a b => match a with
  | 0 => .inr (0, fs)
  | 3 => .inl (dA 2, 6, .inr (.inr (.inr (.inr (fun k => if k < na then some (ad 4 k) else none)))))
  | a => cx_ce dA (cx_0, ad, (fun _ _ => False), cr) a b
def ci_dm (t s n : Nat) (dr : Nat → Nat → Prop) : Nat → Nat → Prop := fun a b => match a with
  | 0 => b = 0
  | 1 => b < t
  | 2 => b < t
  | 3 => b = 0 ∧ 1 ≤ s
  | 4 => b < n
  | 5 => b < n
  | 6 => b = 0 ∧ 2 ≤ s
  | 7 => b = 0 ∧ 3 ≤ s
  | 8 => False
  | a + 9 => dr a b
theorem cd_Wo.subv {D : va_G} {b0 : Nat} {dm dm' : Nat → Nat → Prop} {ad ad' : Nat → Nat → Nat} {ce ce' : Nat → Nat → va_E} {H : Heap} (h : cd_Wo D b0 dm ad ce H) (h3 : ∀ x y, dm' x y → dm x y ∧ ad' x y = ad x y ∧ (va_at D classes (ad x y, ce x y) H → va_at D classes (ad x y, ce' x y) H)) : cd_Wo D b0 dm' ad' ce' H := by
  refine ⟨fun x y hxy => ?_, fun x y x' y' hxy hxy' he' => ?_⟩
  · obtain ⟨g1, g2, g3⟩ := h3 x y hxy
    rw [g2]
    exact ⟨(h.1 x y g1).1, g3 (h.1 x y g1).2⟩
  · obtain ⟨g1, g2, g3⟩ := h3 x y hxy
    obtain ⟨k1, k2, k3⟩ := h3 x' y' hxy'
    rw [g2, k2] at he'
    exact h.2 x y x' y' g1 k1 he'
theorem va_at_q {D : va_G} {q n : Nat} {cA : ClassId} {f f' : Nat → Option Nat} {H : Heap} (e : ∀ i, i < n → f i = f' i) (h : va_at D classes (q, .inl (cA, n, .inr (.inr (.inr (.inr f))))) H) : va_at D classes (q, .inl (cA, n, .inr (.inr (.inr (.inr f'))))) H := by
  have h' : H[q]? = some (arrV cA n (fun j => va_rf (f j))) := h
  show H[q]? = some (arrV cA n (fun j => va_rf (f' j)))
  rw [h']
  have : (fun j : Fin n => va_rf (f j.val)) = fun j : Fin n => va_rf (f' j.val) := funext fun j => by rw [e j.val j.isLt]
  unfold arrV
  rw [this]
theorem kp_ci {dm : Nat → Nat → Prop} {dA : Nat → ClassId} {ad : Nat → Nat → Nat} {fs fs' : List Value} {na : Nat} {cr : Nat → Nat → va_E} (h0 : ∀ y, dm 0 y → y = 0) : ∀ x y, dm x y → ¬ (x = 0 ∧ y = 0) → ci_ce dA ad fs' na cr x y = ci_ce dA ad fs na cr x y := fun x y hd hn => match x, hd, hn with
  | 0, hd, hn => absurd ⟨rfl, h0 y hd⟩ hn
  | 1, _, _ => rfl | 2, _, _ => rfl | 3, _, _ => rfl | 4, _, _ => rfl | 5, _, _ => rfl | 6, _, _ => rfl | 7, _, _ => rfl | 8, _, _ => rfl | _ + 9, _, _ => rfl
theorem ci_tray (dA : Nat → ClassId) (ad : Nat → Nat → Nat) (fs : List Value) (cr : Nat → Nat → va_E) (dr : Nat → Nat → Prop) (t q q2 : Nat) (d : va_E) : ∀ x y, ci_dm (t + 1) 0 0 dr x y → dm2 (dm2 (ci_dm t 0 0 dr) 1 t) 2 t x y ∧ ad2 (ad2 ad 1 t q) 2 t q2 x y = ad2 (ad2 ad 1 t q) 2 t q2 x y ∧ ci_ce dA (ad2 (ad2 ad 1 t q) 2 t q2) fs 0 cr x y = ce2 (ce2 (ce2 (ci_ce dA ad fs 0 cr) 1 t d) 2 t (.inl (dA 0, 200, .inl (fun _ => 0)))) 1 t (.inr (1, [.int (cx_most t), .ref q2, .int 0])) x y := fun x y hd => match x, hd with
  | 0, hd => ⟨Or.inr (Or.inr hd), rfl, by rw [ce2_n (by simp), ce2_n (by simp), ce2_n (by simp)]; rfl⟩
  | 1, hd => by
    by_cases e : y = t
    · subst e
      refine ⟨Or.inr (Or.inl ⟨rfl, rfl⟩), rfl, ?_⟩
      rw [ce2_s]
      show Sum.inr (1, [Value.int (cx_most y), .ref (ad2 (ad2 ad 1 y q) 2 y q2 2 y), .int (nI 0)]) = _
      rw [ad2_s]
      rfl
    · have hy : y < t := by have : y < t + 1 := hd; omega
      refine ⟨Or.inr (Or.inr hy), rfl, ?_⟩
      rw [ce2_n (by simp [e]), ce2_n (by simp), ce2_n (by simp [e])]
      show Sum.inr (1, [Value.int (cx_most y), .ref (ad2 (ad2 ad 1 t q) 2 t q2 2 y), .int (nI 0)]) = Sum.inr (1, [Value.int (cx_most y), .ref (ad 2 y), .int (nI 0)])
      rw [ad2_n (by simp [e]), ad2_n (by simp)]
  | 2, hd => by
    by_cases e : y = t
    · subst e
      refine ⟨Or.inl ⟨rfl, rfl⟩, rfl, ?_⟩
      rw [ce2_n (by simp), ce2_s]
      rfl
    · have hy : y < t := by have : y < t + 1 := hd; omega
      refine ⟨Or.inr (Or.inr hy), rfl, ?_⟩
      rw [ce2_n (by simp), ce2_n (by simp [e]), ce2_n (by simp)]
      rfl
  | 3, hd => absurd hd.2 (by decide)
  | 4, hd => absurd (show y < 0 from hd) (by omega)
  | 5, hd => absurd (show y < 0 from hd) (by omega)
  | 6, hd => absurd hd.2 (by decide)
  | 7, hd => absurd hd.2 (by decide)
  | 8, hd => False.elim hd
  | x + 9, hd => ⟨Or.inr (Or.inr hd), rfl, by rw [ce2_n (by simp), ce2_n (by simp), ce2_n (by simp)]; rfl⟩
theorem ci_a3 (dA : Nat → ClassId) (ad : Nat → Nat → Nat) (fs : List Value) (cr : Nat → Nat → va_E) (dr : Nat → Nat → Prop) : ∀ q x y, ci_dm 3 1 0 dr x y → (x = 3 ∧ y = 0) ∨ (ci_dm 3 0 0 dr x y ∧ ad2 ad 3 0 q x y = ad x y ∧ ci_ce dA (ad2 ad 3 0 q) fs 0 cr x y = ci_ce dA ad fs 0 cr x y) := fun q x y hd => match x, hd with
  | 0, hd => Or.inr ⟨hd, rfl, rfl⟩ | 1, hd => Or.inr ⟨hd, rfl, rfl⟩ | 2, hd => Or.inr ⟨hd, rfl, rfl⟩
  | 3, hd => Or.inl ⟨rfl, hd.1⟩
  | 4, hd => absurd (show y < 0 from hd) (by omega) | 5, hd => absurd (show y < 0 from hd) (by omega)
  | 6, hd => absurd hd.2 (by decide) | 7, hd => absurd hd.2 (by decide) | 8, hd => False.elim hd
  | _ + 9, hd => Or.inr ⟨hd, rfl, rfl⟩
theorem ci_a6 (dA : Nat → ClassId) (ad : Nat → Nat → Nat) (fs : List Value) (cr : Nat → Nat → va_E) (dr : Nat → Nat → Prop) : ∀ q x y, ci_dm 3 2 0 dr x y → (x = 6 ∧ y = 0) ∨ (ci_dm 3 1 0 dr x y ∧ ad2 ad 6 0 q x y = ad x y ∧ ci_ce dA (ad2 ad 6 0 q) fs 0 cr x y = ci_ce dA ad fs 0 cr x y) := fun q x y hd => match x, hd with
  | 0, hd => Or.inr ⟨hd, rfl, rfl⟩ | 1, hd => Or.inr ⟨hd, rfl, rfl⟩ | 2, hd => Or.inr ⟨hd, rfl, rfl⟩
  | 3, hd => Or.inr ⟨⟨hd.1, by decide⟩, rfl, rfl⟩
  | 4, hd => absurd (show y < 0 from hd) (by omega) | 5, hd => absurd (show y < 0 from hd) (by omega)
  | 6, hd => Or.inl ⟨rfl, hd.1⟩ | 7, hd => absurd hd.2 (by decide) | 8, hd => False.elim hd
  | _ + 9, hd => Or.inr ⟨hd, rfl, rfl⟩
theorem ci_a7 (dA : Nat → ClassId) (ad : Nat → Nat → Nat) (fs : List Value) (cr : Nat → Nat → va_E) (dr : Nat → Nat → Prop) : ∀ q x y, ci_dm 3 3 0 dr x y → (x = 7 ∧ y = 0) ∨ (ci_dm 3 2 0 dr x y ∧ ad2 ad 7 0 q x y = ad x y ∧ ci_ce dA (ad2 ad 7 0 q) fs 0 cr x y = ci_ce dA ad fs 0 cr x y) := fun q x y hd => match x, hd with
  | 0, hd => Or.inr ⟨hd, rfl, rfl⟩ | 1, hd => Or.inr ⟨hd, rfl, rfl⟩ | 2, hd => Or.inr ⟨hd, rfl, rfl⟩
  | 3, hd => Or.inr ⟨⟨hd.1, by decide⟩, rfl, rfl⟩
  | 4, hd => absurd (show y < 0 from hd) (by omega) | 5, hd => absurd (show y < 0 from hd) (by omega)
  | 6, hd => Or.inr ⟨⟨hd.1, by decide⟩, rfl, rfl⟩ | 7, hd => Or.inl ⟨rfl, hd.1⟩ | 8, hd => False.elim hd
  | _ + 9, hd => Or.inr ⟨hd, rfl, rfl⟩
theorem ci_shelf (dA : Nat → ClassId) (ad : Nat → Nat → Nat) (fs : List Value) (cr : Nat → Nat → va_E) (dr : Nat → Nat → Prop) (n q q2 : Nat) (d : va_E) : ∀ x y, ci_dm 3 3 (n + 1) dr x y → dm2 (dm2 (ci_dm 3 3 n dr) 4 n) 5 n x y ∧ ad2 (ad2 ad 4 n q) 5 n q2 x y = ad2 (ad2 ad 4 n q) 5 n q2 x y ∧ ci_ce dA (ad2 (ad2 ad 4 n q) 5 n q2) fs n cr x y = ce2 (ce2 (ce2 (ci_ce dA ad fs n cr) 4 n d) 5 n (.inl (dA 3, 20, .inr (.inr (.inr (.inr (fun _ => none))))))) 4 n (.inr (2, [.ref q2, .int 0])) x y := fun x y hd => match x, hd with
  | 0, hd => ⟨Or.inr (Or.inr hd), rfl, by rw [ce2_n (by simp), ce2_n (by simp), ce2_n (by simp)]; rfl⟩
  | 1, hd => ⟨Or.inr (Or.inr hd), rfl, by rw [ce2_n (by simp), ce2_n (by simp), ce2_n (by simp)]; rfl⟩
  | 2, hd => ⟨Or.inr (Or.inr hd), rfl, by rw [ce2_n (by simp), ce2_n (by simp), ce2_n (by simp)]; rfl⟩
  | 3, hd => ⟨Or.inr (Or.inr hd), rfl, by
      rw [ce2_n (by simp), ce2_n (by simp), ce2_n (by simp)]
      have e : (fun k => if k < n then some (ad2 (ad2 ad 4 n q) 5 n q2 4 k) else none) = fun k => if k < n then some (ad 4 k) else none := by
        funext k
        by_cases hk : k < n
        · rw [if_pos hk, if_pos hk, ad2_n (by simp), ad2_n (by simp; omega)]
        · rw [if_neg hk, if_neg hk]
      show Sum.inl (dA 2, 6, Sum.inr (Sum.inr (Sum.inr (Sum.inr (fun k => if k < n then some (ad2 (ad2 ad 4 n q) 5 n q2 4 k) else none))))) = _
      rw [e]
      rfl⟩
  | 4, hd => by
    by_cases e : y = n
    · subst e
      refine ⟨Or.inr (Or.inl ⟨rfl, rfl⟩), rfl, ?_⟩
      rw [ce2_s]
      show Sum.inr (2, [Value.ref (ad2 (ad2 ad 4 y q) 5 y q2 5 y), .int (nI 0)]) = _
      rw [ad2_s]
      rfl
    · have hy : y < n := by have : y < n + 1 := hd; omega
      refine ⟨Or.inr (Or.inr hy), rfl, ?_⟩
      rw [ce2_n (by simp [e]), ce2_n (by simp), ce2_n (by simp [e])]
      show Sum.inr (2, [Value.ref (ad2 (ad2 ad 4 n q) 5 n q2 5 y), .int (nI 0)]) = Sum.inr (2, [Value.ref (ad 5 y), .int (nI 0)])
      rw [ad2_n (by simp [e]), ad2_n (by simp)]
  | 5, hd => by
    by_cases e : y = n
    · subst e
      refine ⟨Or.inl ⟨rfl, rfl⟩, rfl, ?_⟩
      rw [ce2_n (by simp), ce2_s]
      rfl
    · have hy : y < n := by have : y < n + 1 := hd; omega
      refine ⟨Or.inr (Or.inr hy), rfl, ?_⟩
      rw [ce2_n (by simp), ce2_n (by simp [e]), ce2_n (by simp)]
      rfl
  | 6, hd => ⟨Or.inr (Or.inr hd), rfl, by rw [ce2_n (by simp), ce2_n (by simp), ce2_n (by simp)]; rfl⟩
  | 7, hd => ⟨Or.inr (Or.inr hd), rfl, by rw [ce2_n (by simp), ce2_n (by simp), ce2_n (by simp)]; rfl⟩
  | 8, hd => False.elim hd
  | x + 9, hd => ⟨Or.inr (Or.inr hd), rfl, by rw [ce2_n (by simp), ce2_n (by simp), ce2_n (by simp)]; rfl⟩
theorem ci_aast (dA : Nat → ClassId) (ad : Nat → Nat → Nat) (fs : List Value) (n : Nat) (hn : n < 6) (cr : Nat → Nat → va_E) : ci_ce dA ad fs (n + 1) cr 3 0 = .inl (dA 2, 6, .inr (.inr (.inr (.inr (va_up (fun k => if k < n then some (ad 4 k) else none) (nI n).toNatClampNeg (some (ad 4 n))))))) := by
  have e : (fun k => if k < n + 1 then some (ad 4 k) else none) = va_up (fun k => if k < n then some (ad 4 k) else none) (nI n).toNatClampNeg (some (ad 4 n)) := by
    funext k
    rw [nI_clamp (by omega)]
    unfold va_up
    by_cases hk : k = n
    · subst hk
      rw [if_pos (by omega), if_pos rfl]
    · rw [if_neg hk]
      show (if k < n + 1 then some (ad 4 k) else none) = if k < n then some (ad 4 k) else none
      by_cases hl : k < n
      · rw [if_pos hl, if_pos (by omega)]
      · rw [if_neg hl, if_neg (by omega)]
  show Sum.inl (dA 2, 6, Sum.inr (Sum.inr (Sum.inr (Sum.inr (fun k => if k < n + 1 then some (ad 4 k) else none))))) = _
  rw [e]
theorem kp_aast (dA : Nat → ClassId) (ad : Nat → Nat → Nat) (fs : List Value) (n n' : Nat) (cr : Nat → Nat → va_E) {dm : Nat → Nat → Prop} (h3 : ∀ y, dm 3 y → y = 0) : ∀ x y, dm x y → ¬ (x = 3 ∧ y = 0) → ci_ce dA ad fs n' cr x y = ci_ce dA ad fs n cr x y := fun x y hd hn => match x, hd, hn with
  | 3, hd, hn => absurd ⟨rfl, h3 y hd⟩ hn
  | 0, _, _ => rfl | 1, _, _ => rfl | 2, _, _ => rfl | 4, _, _ => rfl | 5, _, _ => rfl | 6, _, _ => rfl | 7, _, _ => rfl | 8, _, _ => rfl | _ + 9, _, _ => rfl
abbrev fsF (ad : Nat → Nat → Nat) : List Value := [.ref (ad 1 0), .ref (ad 1 1), .ref (ad 1 2), .ref (ad 3 0), .ref (ad 6 0), .ref (ad 7 0), .int 0, .int 0, .int 0, .int 0, .int 0, .int 0, .int 0, .int 0]
theorem ci_end {D : va_G} {b0 : Nat} (dA : Nat → ClassId) (ad : Nat → Nat → Nat) (cr : Nat → Nat → va_E) (dr : Nat → Nat → Prop) {H : Heap} (h : cd_Wo D b0 (ci_dm 3 3 6 dr) ad (ci_ce dA ad (fsF ad) 6 cr) H) : cd_Wo D b0 (cx_dm (cx_0, ad, dr, cr)) ad (cx_ce dA (cx_0, ad, dr, cr)) H :=
  h.subv (fun x y hd => match x, hd with
    | 0, hd => ⟨hd, rfl, fun z => z⟩
    | 1, hd => ⟨hd, rfl, fun z => z⟩
    | 2, hd => ⟨hd, rfl, fun z => z⟩
    | 3, hd => ⟨⟨hd, by decide⟩, rfl, fun z => va_at_q (fun i hi => if_pos hi) z⟩
    | 4, hd => ⟨hd, rfl, fun z => z⟩
    | 5, hd => ⟨hd, rfl, fun z => z⟩
    | 6, hd => ⟨⟨hd, by decide⟩, rfl, fun z => z⟩
    | 7, hd => ⟨⟨hd, by decide⟩, rfl, fun z => z⟩
    | 8, hd => False.elim hd
    | _ + 9, hd => ⟨hd, rfl, fun z => z⟩)
/-! the reference's world while it is made -/
def cm_0 : cm_S := (fun _ => 0, fun _ _ => 0, fun _ _ => 0)
def mi_ce (dA : Nat → ClassId) (ad : Nat → Nat → Nat) (fs : List Value) (cr : Nat → Nat → va_E) : Nat → Nat → va_E := fun a b => match a with
  | 9 => .inr (4, fs)
  | 10 => cm_ar dA (cm_0, ad, (fun _ _ => False), cr) b
  | a => cr a b
def mi_dm (n : Nat) (dr : Nat → Nat → Prop) : Nat → Nat → Prop := fun a b => match a with
  | 9 => b = 0
  | 10 => b < n
  | a => dr a b
theorem mi_other {dA : Nat → ClassId} {ad : Nat → Nat → Nat} {fs : List Value} {cr : Nat → Nat → va_E} {x y : Nat} (h1 : x ≠ 9) (h2 : x ≠ 10) : mi_ce dA ad fs cr x y = cr x y := by
  unfold mi_ce
  split <;> first | (exfalso; omega) | rfl
theorem mi_dmo {n : Nat} {dr : Nat → Nat → Prop} {x y : Nat} (h1 : x ≠ 9) (h2 : x ≠ 10) : mi_dm n dr x y = dr x y := by
  unfold mi_dm
  split <;> first | (exfalso; omega) | rfl
theorem mi_step (dA : Nat → ClassId) (ad : Nat → Nat → Nat) (fs : List Value) (cr : Nat → Nat → va_E) (dr : Nat → Nat → Prop) (n : Nat) : ∀ q x y, mi_dm (n + 1) dr x y → (x = 10 ∧ y = n) ∨ (mi_dm n dr x y ∧ ad2 ad 10 n q x y = ad x y ∧ mi_ce dA (ad2 ad 10 n q) fs cr x y = mi_ce dA ad fs cr x y) := fun q x y hd => by
  by_cases h1 : x = 9
  · subst h1
    exact Or.inr ⟨hd, ad2_n (by simp), rfl⟩
  · by_cases h2 : x = 10
    · subst h2
      have hd' : y < n + 1 := hd
      by_cases e : y = n
      · exact Or.inl ⟨rfl, e⟩
      · exact Or.inr ⟨show y < n by omega, ad2_n (by simp [e]), rfl⟩
    · rw [mi_dmo h1 h2] at hd
      exact Or.inr ⟨by rw [mi_dmo h1 h2]; exact hd, ad2_n (by simp [h2]), by rw [mi_other h1 h2, mi_other h1 h2]⟩
theorem kp_mi9 {dm : Nat → Nat → Prop} {dA : Nat → ClassId} {ad : Nat → Nat → Nat} {fs fs' : List Value} {cr : Nat → Nat → va_E} (h0 : ∀ y, dm 9 y → y = 0) : ∀ x y, dm x y → ¬ (x = 9 ∧ y = 0) → mi_ce dA ad fs' cr x y = mi_ce dA ad fs cr x y := fun x y hd hn => by
  by_cases h1 : x = 9
  · subst h1
    exact absurd ⟨rfl, h0 y hd⟩ hn
  · by_cases h2 : x = 10
    · subst h2; rfl
    · rw [mi_other h1 h2, mi_other h1 h2]
abbrev fsM (ad : Nat → Nat → Nat) : List Value := [.int 0, .ref (ad 10 0), .ref (ad 10 1), .ref (ad 10 2), .ref (ad 10 3), .ref (ad 10 4), .ref (ad 10 5), .ref (ad 10 6), .ref (ad 10 7), .ref (ad 10 8), .ref (ad 10 9), .ref (ad 10 10), .int 0, .int 0, .int 0, .int 0, .int 0, .int 0, .int 0, .int 0]
theorem mi_end {D : va_G} {b0 : Nat} (dA : Nat → ClassId) (ad : Nat → Nat → Nat) (cr : Nat → Nat → va_E) (dr : Nat → Nat → Prop) {H : Heap} (h : cd_Wo D b0 (mi_dm 11 dr) ad (mi_ce dA ad (fsM ad) cr) H) : cd_Wo D b0 (cm_dm (cm_0, ad, dr, cr)) ad (cm_ce dA (cm_0, ad, dr, cr)) H :=
  h.sub (fun x y hd => by
    by_cases h1 : x = 9
    · subst h1
      exact ⟨hd, rfl, rfl⟩
    · by_cases h2 : x = 10
      · subst h2
        exact ⟨hd, rfl, rfl⟩
      · have e : ∀ z : cm_W, cm_ce dA z x y = m_cr z x y := fun z => by
          unfold cm_ce
          split <;> first | (exfalso; omega) | rfl
        have e' : cm_dm (cm_0, ad, dr, cr) x y = dr x y := by
          unfold cm_dm
          split <;> first | (exfalso; omega) | rfl
        rw [e'] at hd
        exact ⟨by rw [mi_dmo h1 h2]; exact hd, rfl, by rw [e, mi_other h1 h2]⟩)
theorem mi_st {p l e} {R : Room} {s m av below meth c H locs k1 k2} {Q} {pc : Nat} {ls : Array Slot} {v : Value} {r r' : Nat} {rest : List Value} (h : r' = r) (x : W p l e R s m av below meth c H locs k1 k2 Q (F0 m pc ls (v :: .ref r' :: rest))) : W p l e R s m av below meth c H locs k1 k2 Q (F0 m pc ls (v :: .ref r :: rest)) := by
  subst h
  exact x
