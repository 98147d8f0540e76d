/-! a new thing of the class: its number is its NUMBER -/
def ad2 (ad : Nat → Nat → Nat) (a b q : Nat) : Nat → Nat → Nat := fun x y => if x = a ∧ y = b then q else ad x y
def nj (w : cx_W) (k : Nat) : Nat := 64 * k + x_made w k + 1
def f_newj (w : cx_W) (j q : Nat) : cx_W := ((w.1.1, w.1.2.1, w.1.2.2.1, w.1.2.2.2.1, w.1.2.2.2.2.1, w.1.2.2.2.2.2.1, w.1.2.2.2.2.2.2.1, va_up (x_st w) j 0, va_up (x_tu w) j 0, va_up (x_us w) j 0, va_up (x_th w) j 0, va_up (x_src w) j none, fun z => z = j ∨ x_al w z), (ad2 (x_ad w) 8 j q, w.2.2))
def f_mk1 (w : cx_W) (k q : Nat) : cx_W := f_newj w (nj w k) q
theorem nj_new {w : cx_W} (hI : cx_Iv w) (hJ : cx_Ia w) {k : Nat} (hm : x_made w k < 20) : ¬ x_al w (nj w k) := by
  intro h
  obtain ⟨k', i, h1, h2⟩ := hJ _ h
  have h3 := hI.2.1 k'
  unfold nj at h2
  have : k = k' := by omega
  subst this
  omega
theorem mk1_ad (w : cx_W) (k q : Nat) : x_ad (f_mk1 w k q) 8 (nj w k) = q := by simp [x_src, x_st, x_tu, x_us, x_th, x_ad, f_mk1, f_newj, ad2]
theorem mk1_ce (dA : Nat → ClassId) (w : cx_W) (k q : Nat) : cx_ce dA (f_mk1 w k q) 8 (nj w k) = .inr (3, [.null, .long 0, .int 0, .int 0, .int 0]) := by simp [cx_ce, x_src, x_st, x_tu, x_us, x_th, x_ad, f_mk1, f_newj, va_up, va_rf]
theorem mk1_old {w : cx_W} {k j : Nat} (hn : ¬ x_al w (nj w k)) (hj : x_al w j) (q : Nat) : x_ad w 8 j = x_ad (f_mk1 w k q) 8 j := by
  have h : j ≠ nj w k := fun e => hn (e ▸ hj)
  simp [x_src, x_st, x_tu, x_us, x_th, x_ad, f_mk1, f_newj, ad2, h]
theorem mk1_keep (dA : Nat → ClassId) {w : cx_W} (hI : cx_Iv w) {k : Nat} (hn : ¬ x_al w (nj w k)) (q : Nat) : ∀ x y, cx_dm (f_mk1 w k 0) x y → (x = 8 ∧ y = nj w k) ∨ (cx_dm w x y ∧ x_ad (f_mk1 w k q) x y = x_ad w x y ∧ cx_ce dA (f_mk1 w k q) x y = cx_ce dA w x y) := fun x y hd => match x, hd with
  | 0, hd => Or.inr ⟨hd, rfl, rfl⟩
  | 1, hd => Or.inr ⟨hd, rfl, rfl⟩
  | 2, hd => Or.inr ⟨hd, rfl, rfl⟩
  | 3, hd => Or.inr ⟨hd, rfl, rfl⟩
  | 4, hd => Or.inr ⟨hd, rfl, rfl⟩
  | 5, hd => Or.inr ⟨hd, rfl, by
      have e : (fun i => (x_arr w y i).map (x_ad (f_mk1 w k q) 8)) = fun i => (x_arr w y i).map (x_ad w 8) := by
        funext i
        cases ha : x_arr w y i with
        | none => rfl
        | some j => simp only [Option.map_some]; rw [mk1_old hn (hI.2.2.1 _ _ _ ha) q]
      show Sum.inl (dA 3, 20, Sum.inr (Sum.inr (Sum.inr (Sum.inr (fun i => (x_arr w y i).map (x_ad (f_mk1 w k q) 8)))))) = _
      rw [e]
      rfl⟩
  | 6, hd => Or.inr ⟨hd, rfl, rfl⟩
  | 7, hd => Or.inr ⟨hd, rfl, rfl⟩
  | 8, hd => by
      rcases (show y = nj w k ∨ x_al w y from hd) with h | h
      · exact Or.inl ⟨rfl, h⟩
      · refine Or.inr ⟨h, (mk1_old hn h q).symm, ?_⟩
        have hy : y ≠ nj w k := fun e => hn (e ▸ h)
        have e : (x_src w y).map (x_ad (f_mk1 w k q) 8) = (x_src w y).map (x_ad w 8) := by
          cases ha : x_src w y with
          | none => rfl
          | some j => simp only [Option.map_some]; rw [mk1_old hn (hI.2.2.2 _ _ h ha) q]
        have e1 : x_src (f_mk1 w k q) y = x_src w y := by simp [x_src, x_st, x_tu, x_us, x_th, x_ad, f_mk1, f_newj, va_up, hy]
        have e2 : x_st (f_mk1 w k q) y = x_st w y := by simp [x_src, x_st, x_tu, x_us, x_th, x_ad, f_mk1, f_newj, va_up, hy]
        have e3 : x_tu (f_mk1 w k q) y = x_tu w y := by simp [x_src, x_st, x_tu, x_us, x_th, x_ad, f_mk1, f_newj, va_up, hy]
        have e4 : x_us (f_mk1 w k q) y = x_us w y := by simp [x_src, x_st, x_tu, x_us, x_th, x_ad, f_mk1, f_newj, va_up, hy]
        have e5 : x_th (f_mk1 w k q) y = x_th w y := by simp [x_src, x_st, x_tu, x_us, x_th, x_ad, f_mk1, f_newj, va_up, hy]
        show Sum.inr (3, [va_rf ((x_src (f_mk1 w k q) y).map (x_ad (f_mk1 w k q) 8)), .long (x_st (f_mk1 w k q) y), .int (x_tu (f_mk1 w k q) y), .int (x_us (f_mk1 w k q) y), .int (x_th (f_mk1 w k q) y)]) = _
        rw [e1, e, e2, e3, e4, e5]
        rfl
  | _ + 9, hd => Or.inr ⟨hd, rfl, rfl⟩
theorem mk1_Iv {w : cx_W} (hI : cx_Iv w) {k : Nat} (q : Nat) : cx_Iv (f_mk1 w k q) := by
  refine ⟨hI.1, hI.2.1, fun a i j h => Or.inr (hI.2.2.1 a i j h), fun j j' hj h => ?_⟩
  by_cases he : j = nj w k
  · subst he
    simp [x_src, x_st, x_tu, x_us, x_th, x_ad, f_mk1, f_newj, va_up] at h
  · have h' : x_src w j = some j' := by
      have e : x_src (f_mk1 w k q) j = x_src w j := by simp [x_src, x_st, x_tu, x_us, x_th, x_ad, f_mk1, f_newj, va_up, he]
      rw [← e]
      exact h
    rcases (show j = nj w k ∨ x_al w j from hj) with h2 | h2
    · exact absurd h2 he
    · exact Or.inr (hI.2.2.2 _ _ h2 h')
/-- all that a thing holds, at once -/
def u_thing (w : cx_W) (j : Nat) (a : Int64) (b c d : Int32) (o : Option Nat) : cx_W := ((w.1.1, w.1.2.1, w.1.2.2.1, w.1.2.2.2.1, w.1.2.2.2.2.1, w.1.2.2.2.2.2.1, w.1.2.2.2.2.2.2.1, va_up (x_st w) j a, va_up (x_tu w) j b, va_up (x_us w) j c, va_up (x_th w) j d, va_up (x_src w) j o, w.1.2.2.2.2.2.2.2.2.2.2.2.2), w.2)
theorem nw_thing (dA : Nat → ClassId) (w : cx_W) (j : Nat) (a : Int64) (b c d : Int32) (o : Option Nat) : cx_ce dA (u_thing w j a b c d o) 8 j = .inr (3, [va_rf (o.map (x_ad w 8)), .long a, .int b, .int c, .int d]) := by simp [cx_ce, x_src, x_st, x_tu, x_us, x_th, x_ad, u_thing, va_up]
theorem kp_thing (dA : Nat → ClassId) (w : cx_W) (j : Nat) (a : Int64) (b c d : Int32) (o : Option Nat) : ∀ x y, cx_dm w x y → ¬ (x = 8 ∧ y = j) → cx_ce dA (u_thing w j a b c d o) x y = cx_ce dA w x y := fun x y hd hn => match x, hd, hn with
  | 8, _, hn => by
    have h : y ≠ j := fun q => hn ⟨rfl, q⟩
    simp [cx_ce, x_src, x_st, x_tu, x_us, x_th, x_ad, u_thing, va_up, h]
  | 0, _, _ => rfl | 1, _, _ => rfl | 2, _, _ => rfl | 3, _, _ => rfl | 4, _, _ => rfl | 5, _, _ => rfl | 6, _, _ => rfl | 7, _, _ => rfl | _ + 9, _, _ => rfl
theorem kp_thing2 (dA : Nat → ClassId) (w : cx_W) (j : Nat) (a : Int64) (b c d : Int32) (o : Option Nat) (a' : Int64) (b' c' d' : Int32) (o' : Option Nat) : ∀ x y, cx_dm (u_thing w j a' b' c' d' o') x y → ¬ (x = 8 ∧ y = j) → cx_ce dA (u_thing w j a b c d o) x y = cx_ce dA (u_thing w j a' b' c' d' o') x y := fun x y hd hn => (kp_thing dA w j a b c d o x y hd hn).trans (kp_thing dA w j a' b' c' d' o' x y hd hn).symm
theorem to_thing {D : va_G} {dA : Nat → ClassId} {b0 : Nat} {w : cx_W} {H : Heap} {j : Nat} {a : Int64} {b c d : Int32} {o : Option Nat} (h : cd_Wo D b0 (cx_dm w) (x_ad w) (cx_ce dA (u_thing w j a b c d o)) H) : cx_Wo D dA b0 (u_thing w j a b c d o) H := h
theorem to_thing2 {D : va_G} {dA : Nat → ClassId} {b0 : Nat} {w : cx_W} {H : Heap} {j : Nat} {a : Int64} {b c d : Int32} {o : Option Nat} {a' : Int64} {b' c' d' : Int32} {o' : Option Nat} (h : cd_Wo D b0 (cx_dm (u_thing w j a' b' c' d' o')) (x_ad (u_thing w j a' b' c' d' o')) (cx_ce dA (u_thing w j a b c d o)) H) : cx_Wo D dA b0 (u_thing w j a b c d o) H := h
theorem al_thing {w : cx_W} {j : Nat} {a : Int64} {b c d : Int32} {o : Option Nat} {q : Nat} (h : x_al w q) : cx_dm (u_thing w j a b c d o) 8 q := h
