/-! THE REFERENCE'S WORLD: its object is (9, 0), its arrays (10, 0 .. 10). mc: code, refused, failed, lastFailure, lastCall, lastNumber, answered, things, noted; mi, ml: what its arrays hold. Behind: the addresses, and what else the world holds. -/
abbrev cm_S : Type := (Nat → Int32) × (Nat → Nat → Int32) × (Nat → Nat → Int64)
abbrev cm_W : Type := cm_S × (Nat → Nat → Nat) × (Nat → Nat → Prop) × (Nat → Nat → va_E)
abbrev x_mc (w : cm_W) : Nat → Int32 := w.1.1
abbrev x_mi (w : cm_W) : Nat → Nat → Int32 := w.1.2.1
abbrev x_ml (w : cm_W) : Nat → Nat → Int64 := w.1.2.2
abbrev m_ad (w : cm_W) : Nat → Nat → Nat := w.2.1
abbrev m_dr (w : cm_W) : Nat → Nat → Prop := w.2.2.1
abbrev m_cr (w : cm_W) : Nat → Nat → va_E := w.2.2.2
abbrev u_mc (w : cm_W) (i : Nat) (v : Int32) : cm_W := ((va_up w.1.1 i v, w.1.2), w.2)
abbrev u_mi (w : cm_W) (b i : Nat) (v : Int32) : cm_W := ((w.1.1, va_up w.1.2.1 b (upd (w.1.2.1 b) i v), w.1.2.2), w.2)
abbrev u_ml (w : cm_W) (b i : Nat) (v : Int64) : cm_W := ((w.1.1, w.1.2.1, va_up w.1.2.2 b (vp_updL (w.1.2.2 b) i v)), w.2)
def cm_ar (dA : Nat → ClassId) (w : cm_W) (b : Nat) : va_E := match b with
  | 0 => .inl (dA 0, 200, .inl (x_mi w 0))
  | 1 => .inl (dA 0, 200, .inl (x_mi w 1))
  | 2 => .inl (dA 0, 200, .inl (x_mi w 2))
  | 3 => .inl (dA 0, 3, .inl (x_mi w 3))
  | 4 => .inl (dA 1, 24, .inr (.inl (x_ml w 4)))
  | 5 => .inl (dA 0, 24, .inl (x_mi w 5))
  | 6 => .inl (dA 4, 384, .inl (x_mi w 6))
  | 7 => .inl (dA 1, 384, .inr (.inl (x_ml w 7)))
  | 8 => .inl (dA 0, 384, .inl (x_mi w 8))
  | 9 => .inl (dA 0, 384, .inl (x_mi w 9))
  | _ => .inl (dA 0, 6, .inl (x_mi w 10))
def cm_ce (dA : Nat → ClassId) (w : cm_W) : Nat → Nat → va_E := fun a b => match a with
  | 9 => .inr (4, [.int (x_mc w 0), .ref (m_ad w 10 0), .ref (m_ad w 10 1), .ref (m_ad w 10 2), .ref (m_ad w 10 3), .ref (m_ad w 10 4), .ref (m_ad w 10 5), .ref (m_ad w 10 6), .ref (m_ad w 10 7), .ref (m_ad w 10 8), .ref (m_ad w 10 9), .ref (m_ad w 10 10), .int (x_mc w 1), .int (x_mc w 2), .int (x_mc w 3), .int (x_mc w 4), .int (x_mc w 5), .int (x_mc w 6), .int (x_mc w 7), .int (x_mc w 8)])
  | 10 => cm_ar dA w b
  | a => m_cr w a b
def cm_dm (w : cm_W) : Nat → Nat → Prop := fun a b => match a with
  | 9 => b = 0
  | 10 => b < 11
  | a => m_dr w a b
abbrev cm_Wo (D : va_G) (dA : Nat → ClassId) (b0 : Nat) (w : cm_W) (H : Heap) : Prop := cd_Wo D b0 (cm_dm w) (m_ad w) (cm_ce dA w) H
abbrev cm_R (dA : Nat → ClassId) (v0 : Option Value) (w0 : cm_W) : cd_R := fun v dm ad ce => v = v0 ∧ dm = cm_dm w0 ∧ ad = m_ad w0 ∧ ce = cm_ce dA w0
theorem to_mc {D : va_G} {dA : Nat → ClassId} {b0 : Nat} {w : cm_W} {H : Heap} {i : Nat} {v : Int32} (h : cd_Wo D b0 (cm_dm w) (m_ad w) (cm_ce dA (u_mc w i v)) H) : cm_Wo D dA b0 (u_mc w i v) H := h
theorem to_mi {D : va_G} {dA : Nat → ClassId} {b0 : Nat} {w : cm_W} {H : Heap} {b i : Nat} {v : Int32} (h : cd_Wo D b0 (cm_dm w) (m_ad w) (cm_ce dA (u_mi w b i v)) H) : cm_Wo D dA b0 (u_mi w b i v) H := h
theorem to_ml {D : va_G} {dA : Nat → ClassId} {b0 : Nat} {w : cm_W} {H : Heap} {b i : Nat} {v : Int64} (h : cd_Wo D b0 (cm_dm w) (m_ad w) (cm_ce dA (u_ml w b i v)) H) : cm_Wo D dA b0 (u_ml w b i v) H := h
theorem kp_cm (dA : Nat → ClassId) (w w' : cm_W) (h9 : cm_ce dA w' 9 0 = cm_ce dA w 9 0) (h10 : ∀ b, b < 11 → cm_ar dA w' b = cm_ar dA w b) (hr : m_cr w' = m_cr w) : ∀ x y, cm_dm w x y → cm_ce dA w' x y = cm_ce dA w x y := fun x y hd => by
  by_cases h1 : x = 9
  · subst h1
    have hy : y = 0 := hd
    rw [hy]
    exact h9
  · by_cases h2 : x = 10
    · subst h2
      exact h10 y hd
    · have e : ∀ z : cm_W, cm_ce dA z x y = m_cr z x y := fun z => by
        unfold cm_ce
        split <;> first | (exfalso; omega) | rfl
      rw [e, e, hr]
theorem kp_mc (dA : Nat → ClassId) (w : cm_W) (i : Nat) (v : Int32) : ∀ x y, cm_dm w x y → ¬ (x = 9 ∧ y = 0) → cm_ce dA (u_mc w i v) x y = cm_ce dA w x y := fun x y hd hn => by
  by_cases h1 : x = 9
  · subst h1
    have hy : y = 0 := hd
    exact absurd ⟨rfl, hy⟩ hn
  · by_cases h2 : x = 10
    · subst h2
      rfl
    · have e : ∀ z : cm_W, cm_ce dA z x y = m_cr z x y := fun z => by
        unfold cm_ce
        split <;> first | (exfalso; omega) | rfl
      rw [e, e]
theorem ar_mi (dA : Nat → ClassId) (w : cm_W) (b i : Nat) (v : Int32) (y : Nat) (hy : y < 11) (h : y ≠ b) : cm_ar dA (u_mi w b i v) y = cm_ar dA w y := by
  have e : ∀ q, q ≠ b → x_mi (u_mi w b i v) q = x_mi w q := fun q hq => by simp [x_mi, va_up, hq]
  rcases (show y = 0 ∨ y = 1 ∨ y = 2 ∨ y = 3 ∨ y = 4 ∨ y = 5 ∨ y = 6 ∨ y = 7 ∨ y = 8 ∨ y = 9 ∨ y = 10 by omega) with rfl | rfl | rfl | rfl | rfl | rfl | rfl | rfl | rfl | rfl | rfl <;> simp only [cm_ar, e _ h]
theorem ar_ml (dA : Nat → ClassId) (w : cm_W) (b i : Nat) (v : Int64) (y : Nat) (hy : y < 11) (h : y ≠ b) : cm_ar dA (u_ml w b i v) y = cm_ar dA w y := by
  have e : ∀ q, q ≠ b → x_ml (u_ml w b i v) q = x_ml w q := fun q hq => by simp [x_ml, va_up, hq]
  rcases (show y = 0 ∨ y = 1 ∨ y = 2 ∨ y = 3 ∨ y = 4 ∨ y = 5 ∨ y = 6 ∨ y = 7 ∨ y = 8 ∨ y = 9 ∨ y = 10 by omega) with rfl | rfl | rfl | rfl | rfl | rfl | rfl | rfl | rfl | rfl | rfl <;> simp only [cm_ar, e _ h]
theorem kp_mi (dA : Nat → ClassId) (w : cm_W) (b i : Nat) (v : Int32) : ∀ x y, cm_dm w x y → ¬ (x = 10 ∧ y = b) → cm_ce dA (u_mi w b i v) x y = cm_ce dA w x y := fun x y hd hn => by
  by_cases h1 : x = 9
  · subst h1
    rfl
  · by_cases h2 : x = 10
    · subst h2
      exact ar_mi dA w b i v y hd (fun q => hn ⟨rfl, q⟩)
    · have e : ∀ z : cm_W, cm_ce dA z x y = m_cr z x y := fun z => by
        unfold cm_ce
        split <;> first | (exfalso; omega) | rfl
      rw [e, e]
theorem kp_ml (dA : Nat → ClassId) (w : cm_W) (b i : Nat) (v : Int64) : ∀ x y, cm_dm w x y → ¬ (x = 10 ∧ y = b) → cm_ce dA (u_ml w b i v) x y = cm_ce dA w x y := fun x y hd hn => by
  by_cases h1 : x = 9
  · subst h1
    rfl
  · by_cases h2 : x = 10
    · subst h2
      exact ar_ml dA w b i v y hd (fun q => hn ⟨rfl, q⟩)
    · have e : ∀ z : cm_W, cm_ce dA z x y = m_cr z x y := fun z => by
        unfold cm_ce
        split <;> first | (exfalso; omega) | rfl
      rw [e, e]
