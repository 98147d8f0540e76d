/-! THE CLASS'S WORLD. ctr: refused, failed, lastFailure, lastFailedCall, lastFailedNumber, answered, thingsMade, noted; cnt, val: the trays; ans, fl; made, arr: the shelves (arr k i: the thing's number j); st, tu, us, th, src: the things; al: those that are made. Behind: the addresses, and what else the world holds (dr, cr). -/
abbrev cx_S : Type := (Nat → Int32) × (Nat → Nat) × (Nat → Nat → Int32) × (Nat → Int64) × (Nat → Int32) × (Nat → Nat) × (Nat → Nat → Option Nat) × (Nat → Int64) × (Nat → Int32) × (Nat → Int32) × (Nat → Int32) × (Nat → Option Nat) × (Nat → Prop)
abbrev cx_W : Type := cx_S × (Nat → Nat → Nat) × (Nat → Nat → Prop) × (Nat → Nat → va_E)
abbrev x_ctr (w : cx_W) : Nat → Int32 := w.1.1
abbrev x_cnt (w : cx_W) : Nat → Nat := w.1.2.1
abbrev x_val (w : cx_W) : Nat → Nat → Int32 := w.1.2.2.1
abbrev x_ans (w : cx_W) : Nat → Int64 := w.1.2.2.2.1
abbrev x_fl (w : cx_W) : Nat → Int32 := w.1.2.2.2.2.1
abbrev x_made (w : cx_W) : Nat → Nat := w.1.2.2.2.2.2.1
abbrev x_arr (w : cx_W) : Nat → Nat → Option Nat := w.1.2.2.2.2.2.2.1
abbrev x_st (w : cx_W) : Nat → Int64 := w.1.2.2.2.2.2.2.2.1
abbrev x_tu (w : cx_W) : Nat → Int32 := w.1.2.2.2.2.2.2.2.2.1
abbrev x_us (w : cx_W) : Nat → Int32 := w.1.2.2.2.2.2.2.2.2.2.1
abbrev x_th (w : cx_W) : Nat → Int32 := w.1.2.2.2.2.2.2.2.2.2.2.1
abbrev x_src (w : cx_W) : Nat → Option Nat := w.1.2.2.2.2.2.2.2.2.2.2.2.1
abbrev x_al (w : cx_W) : Nat → Prop := w.1.2.2.2.2.2.2.2.2.2.2.2.2
abbrev x_ad (w : cx_W) : Nat → Nat → Nat := w.2.1
abbrev x_dr (w : cx_W) : Nat → Nat → Prop := w.2.2.1
abbrev x_cr (w : cx_W) : Nat → Nat → va_E := w.2.2.2
abbrev u_ctr (w : cx_W) (i : Nat) (v : Int32) : cx_W := ((va_up w.1.1 i v, w.1.2), w.2)
abbrev u_cnt (w : cx_W) (i : Nat) (v : Nat) : cx_W := ((w.1.1, va_up w.1.2.1 i v, w.1.2.2), w.2)
abbrev u_val (w : cx_W) (t i : Nat) (v : Int32) : cx_W := ((w.1.1, w.1.2.1, va_up w.1.2.2.1 t (upd (w.1.2.2.1 t) i v), w.1.2.2.2), w.2)
abbrev u_ans (w : cx_W) (i : Nat) (v : Int64) : cx_W := ((w.1.1, w.1.2.1, w.1.2.2.1, vp_updL w.1.2.2.2.1 i v, w.1.2.2.2.2), w.2)
abbrev u_fl (w : cx_W) (i : Nat) (v : Int32) : cx_W := ((w.1.1, w.1.2.1, w.1.2.2.1, w.1.2.2.2.1, upd w.1.2.2.2.2.1 i v, w.1.2.2.2.2.2), w.2)
abbrev u_made (w : cx_W) (k : Nat) (v : Nat) : cx_W := ((w.1.1, w.1.2.1, w.1.2.2.1, w.1.2.2.2.1, w.1.2.2.2.2.1, va_up w.1.2.2.2.2.2.1 k v, w.1.2.2.2.2.2.2), w.2)
abbrev u_arr (w : cx_W) (k i : Nat) (v : Option Nat) : cx_W := ((w.1.1, w.1.2.1, w.1.2.2.1, w.1.2.2.2.1, w.1.2.2.2.2.1, w.1.2.2.2.2.2.1, va_up w.1.2.2.2.2.2.2.1 k (va_up (w.1.2.2.2.2.2.2.1 k) i v), w.1.2.2.2.2.2.2.2), w.2)
abbrev u_st (w : cx_W) (j : Nat) (v : Int64) : cx_W := ((w.1.1, w.1.2.1, w.1.2.2.1, w.1.2.2.2.1, w.1.2.2.2.2.1, w.1.2.2.2.2.2.1, w.1.2.2.2.2.2.2.1, va_up w.1.2.2.2.2.2.2.2.1 j v, w.1.2.2.2.2.2.2.2.2), w.2)
abbrev u_tu (w : cx_W) (j : Nat) (v : Int32) : cx_W := ((w.1.1, w.1.2.1, w.1.2.2.1, w.1.2.2.2.1, w.1.2.2.2.2.1, w.1.2.2.2.2.2.1, w.1.2.2.2.2.2.2.1, w.1.2.2.2.2.2.2.2.1, va_up w.1.2.2.2.2.2.2.2.2.1 j v, w.1.2.2.2.2.2.2.2.2.2), w.2)
abbrev u_us (w : cx_W) (j : Nat) (v : Int32) : cx_W := ((w.1.1, w.1.2.1, w.1.2.2.1, w.1.2.2.2.1, w.1.2.2.2.2.1, w.1.2.2.2.2.2.1, w.1.2.2.2.2.2.2.1, w.1.2.2.2.2.2.2.2.1, w.1.2.2.2.2.2.2.2.2.1, va_up w.1.2.2.2.2.2.2.2.2.2.1 j v, w.1.2.2.2.2.2.2.2.2.2.2), w.2)
abbrev u_th (w : cx_W) (j : Nat) (v : Int32) : cx_W := ((w.1.1, w.1.2.1, w.1.2.2.1, w.1.2.2.2.1, w.1.2.2.2.2.1, w.1.2.2.2.2.2.1, w.1.2.2.2.2.2.2.1, w.1.2.2.2.2.2.2.2.1, w.1.2.2.2.2.2.2.2.2.1, w.1.2.2.2.2.2.2.2.2.2.1, va_up w.1.2.2.2.2.2.2.2.2.2.2.1 j v, w.1.2.2.2.2.2.2.2.2.2.2.2), w.2)
abbrev u_src (w : cx_W) (j : Nat) (v : Option Nat) : cx_W := ((w.1.1, w.1.2.1, w.1.2.2.1, w.1.2.2.2.1, w.1.2.2.2.2.1, w.1.2.2.2.2.2.1, w.1.2.2.2.2.2.2.1, w.1.2.2.2.2.2.2.2.1, w.1.2.2.2.2.2.2.2.2.1, w.1.2.2.2.2.2.2.2.2.2.1, w.1.2.2.2.2.2.2.2.2.2.2.1, va_up w.1.2.2.2.2.2.2.2.2.2.2.2.1 j v, w.1.2.2.2.2.2.2.2.2.2.2.2.2), w.2)
def cx_most (b : Nat) : Int32 := if b = 0 then 127 else if b = 1 then 1 else 255
def cx_ce (dA : Nat → ClassId) (w : cx_W) : Nat → Nat → va_E := fun a b => match a with
  | 0 => .inr (0, [.ref (x_ad w 1 0), .ref (x_ad w 1 1), .ref (x_ad w 1 2), .ref (x_ad w 3 0), .ref (x_ad w 6 0), .ref (x_ad w 7 0), .int (x_ctr w 0), .int (x_ctr w 1), .int (x_ctr w 2), .int (x_ctr w 3), .int (x_ctr w 4), .int (x_ctr w 5), .int (x_ctr w 6), .int (x_ctr w 7)])
  | 1 => .inr (1, [.int (cx_most b), .ref (x_ad w 2 b), .int (nI (x_cnt w b))])
  | 2 => .inl (dA 0, 200, .inl (x_val w b))
  | 3 => .inl (dA 2, 6, .inr (.inr (.inr (.inr (fun k => some (x_ad w 4 k))))))
  | 4 => .inr (2, [.ref (x_ad w 5 b), .int (nI (x_made w b))])
  | 5 => .inl (dA 3, 20, .inr (.inr (.inr (.inr (fun i => (x_arr w b i).map (x_ad w 8))))))
  | 6 => .inl (dA 1, 24, .inr (.inl (x_ans w)))
  | 7 => .inl (dA 0, 24, .inl (x_fl w))
  | 8 => .inr (3, [va_rf ((x_src w b).map (x_ad w 8)), .long (x_st w b), .int (x_tu w b), .int (x_us w b), .int (x_th w b)])
  | a + 9 => x_cr w a b
def cx_dm (w : cx_W) : Nat → Nat → Prop := fun a b => match a with
  | 0 => b = 0
  | 1 => b < 3
  | 2 => b < 3
  | 3 => b = 0
  | 4 => b < 6
  | 5 => b < 6
  | 6 => b = 0
  | 7 => b = 0
  | 8 => x_al w b
  | a + 9 => x_dr w a b
abbrev cx_tys (dA : Nat → ClassId) : List (ClassId × FieldType) := [(dA 0, .int), (dA 1, .long), (dA 2, .object R_Shelf), (dA 3, .object R_Thing), (dA 4, .boolean)]
abbrev cx_Wo (D : va_G) (dA : Nat → ClassId) (b0 : Nat) (w : cx_W) (H : Heap) : Prop := cd_Wo D b0 (cx_dm w) (x_ad w) (cx_ce dA w) H
/-- what a method answers, and the world behind it -/
abbrev cx_R (dA : Nat → ClassId) (v0 : Option Value) (w0 : cx_W) : cd_R := fun v dm ad ce => v = v0 ∧ dm = cx_dm w0 ∧ ad = x_ad w0 ∧ ce = cx_ce dA w0
/-- what doesn't change when one thing does -/
theorem kp_ctr (dA : Nat → ClassId) (w : cx_W) (i : Nat) (v : Int32) : ∀ x y, cx_dm w x y → ¬ (x = 0 ∧ y = 0) → cx_ce dA (u_ctr w i v) x y = cx_ce dA w x y := fun x y hd hn => match x, hd, hn with
  | 0, hd, hn => absurd ⟨rfl, hd⟩ hn
  | 1, _, _ => rfl | 2, _, _ => rfl | 3, _, _ => rfl | 4, _, _ => rfl | 5, _, _ => rfl | 6, _, _ => rfl | 7, _, _ => rfl | 8, _, _ => rfl | _ + 9, _, _ => rfl
theorem kp_cnt (dA : Nat → ClassId) (w : cx_W) (t : Nat) (v : Nat) : ∀ x y, cx_dm w x y → ¬ (x = 1 ∧ y = t) → cx_ce dA (u_cnt w t v) x y = cx_ce dA w x y := fun x y hd hn => match x, hd, hn with
  | 1, _, hn => by
    have h : y ≠ t := fun q => hn ⟨rfl, q⟩
    simp [cx_ce, x_cnt, u_cnt, x_ad, va_up, h]
  | 0, _, _ => rfl | 2, _, _ => rfl | 3, _, _ => rfl | 4, _, _ => rfl | 5, _, _ => rfl | 6, _, _ => rfl | 7, _, _ => rfl | 8, _, _ => rfl | _ + 9, _, _ => rfl
theorem kp_val (dA : Nat → ClassId) (w : cx_W) (t i : Nat) (v : Int32) : ∀ x y, cx_dm w x y → ¬ (x = 2 ∧ y = t) → cx_ce dA (u_val w t i v) x y = cx_ce dA w x y := fun x y hd hn => match x, hd, hn with
  | 2, _, hn => by
    have h : y ≠ t := fun q => hn ⟨rfl, q⟩
    simp [cx_ce, x_val, u_val, x_ad, va_up, h]
  | 0, _, _ => rfl | 1, _, _ => rfl | 3, _, _ => rfl | 4, _, _ => rfl | 5, _, _ => rfl | 6, _, _ => rfl | 7, _, _ => rfl | 8, _, _ => rfl | _ + 9, _, _ => rfl
theorem kp_ans (dA : Nat → ClassId) (w : cx_W) (i : Nat) (v : Int64) : ∀ x y, cx_dm w x y → ¬ (x = 6 ∧ y = 0) → cx_ce dA (u_ans w i v) x y = cx_ce dA w x y := fun x y hd hn => match x, hd, hn with
  | 6, hd, hn => absurd ⟨rfl, hd⟩ hn
  | 0, _, _ => rfl | 1, _, _ => rfl | 2, _, _ => rfl | 3, _, _ => rfl | 4, _, _ => rfl | 5, _, _ => rfl | 7, _, _ => rfl | 8, _, _ => rfl | _ + 9, _, _ => rfl
theorem kp_fl (dA : Nat → ClassId) (w : cx_W) (i : Nat) (v : Int32) : ∀ x y, cx_dm w x y → ¬ (x = 7 ∧ y = 0) → cx_ce dA (u_fl w i v) x y = cx_ce dA w x y := fun x y hd hn => match x, hd, hn with
  | 7, hd, hn => absurd ⟨rfl, hd⟩ hn
  | 0, _, _ => rfl | 1, _, _ => rfl | 2, _, _ => rfl | 3, _, _ => rfl | 4, _, _ => rfl | 5, _, _ => rfl | 6, _, _ => rfl | 8, _, _ => rfl | _ + 9, _, _ => rfl
theorem kp_made (dA : Nat → ClassId) (w : cx_W) (k : Nat) (v : Nat) : ∀ x y, cx_dm w x y → ¬ (x = 4 ∧ y = k) → cx_ce dA (u_made w k v) x y = cx_ce dA w x y := fun x y hd hn => match x, hd, hn with
  | 4, _, hn => by
    have h : y ≠ k := fun q => hn ⟨rfl, q⟩
    simp [cx_ce, x_made, u_made, x_ad, va_up, h]
  | 0, _, _ => rfl | 1, _, _ => rfl | 2, _, _ => rfl | 3, _, _ => rfl | 5, _, _ => rfl | 6, _, _ => rfl | 7, _, _ => rfl | 8, _, _ => rfl | _ + 9, _, _ => rfl
theorem kp_arr (dA : Nat → ClassId) (w : cx_W) (k i : Nat) (v : Option Nat) : ∀ x y, cx_dm w x y → ¬ (x = 5 ∧ y = k) → cx_ce dA (u_arr w k i v) x y = cx_ce dA w x y := fun x y hd hn => match x, hd, hn with
  | 5, _, hn => by
    have h : y ≠ k := fun q => hn ⟨rfl, q⟩
    simp [cx_ce, x_arr, u_arr, x_ad, va_up, h]
  | 0, _, _ => rfl | 1, _, _ => rfl | 2, _, _ => rfl | 3, _, _ => rfl | 4, _, _ => rfl | 6, _, _ => rfl | 7, _, _ => rfl | 8, _, _ => rfl | _ + 9, _, _ => rfl
theorem kp_st (dA : Nat → ClassId) (w : cx_W) (j : Nat) (v : Int64) : ∀ x y, cx_dm w x y → ¬ (x = 8 ∧ y = j) → cx_ce dA (u_st w j v) x y = cx_ce dA w x y := fun x y hd hn => match x, hd, hn with
  | 8, _, hn => by
    have h : y ≠ j := fun q => hn ⟨rfl, q⟩
    simp [cx_ce, x_st, u_st, x_ad, va_up, h]
  | 0, _, _ => rfl | 1, _, _ => rfl | 2, _, _ => rfl | 3, _, _ => rfl | 4, _, _ => rfl | 5, _, _ => rfl | 6, _, _ => rfl | 7, _, _ => rfl | _ + 9, _, _ => rfl
theorem kp_tu (dA : Nat → ClassId) (w : cx_W) (j : Nat) (v : Int32) : ∀ x y, cx_dm w x y → ¬ (x = 8 ∧ y = j) → cx_ce dA (u_tu w j v) x y = cx_ce dA w x y := fun x y hd hn => match x, hd, hn with
  | 8, _, hn => by
    have h : y ≠ j := fun q => hn ⟨rfl, q⟩
    simp [cx_ce, x_tu, u_tu, x_ad, va_up, h]
  | 0, _, _ => rfl | 1, _, _ => rfl | 2, _, _ => rfl | 3, _, _ => rfl | 4, _, _ => rfl | 5, _, _ => rfl | 6, _, _ => rfl | 7, _, _ => rfl | _ + 9, _, _ => rfl
theorem kp_us (dA : Nat → ClassId) (w : cx_W) (j : Nat) (v : Int32) : ∀ x y, cx_dm w x y → ¬ (x = 8 ∧ y = j) → cx_ce dA (u_us w j v) x y = cx_ce dA w x y := fun x y hd hn => match x, hd, hn with
  | 8, _, hn => by
    have h : y ≠ j := fun q => hn ⟨rfl, q⟩
    simp [cx_ce, x_us, u_us, x_ad, va_up, h]
  | 0, _, _ => rfl | 1, _, _ => rfl | 2, _, _ => rfl | 3, _, _ => rfl | 4, _, _ => rfl | 5, _, _ => rfl | 6, _, _ => rfl | 7, _, _ => rfl | _ + 9, _, _ => rfl
theorem kp_th (dA : Nat → ClassId) (w : cx_W) (j : Nat) (v : Int32) : ∀ x y, cx_dm w x y → ¬ (x = 8 ∧ y = j) → cx_ce dA (u_th w j v) x y = cx_ce dA w x y := fun x y hd hn => match x, hd, hn with
  | 8, _, hn => by
    have h : y ≠ j := fun q => hn ⟨rfl, q⟩
    simp [cx_ce, x_th, u_th, x_ad, va_up, h]
  | 0, _, _ => rfl | 1, _, _ => rfl | 2, _, _ => rfl | 3, _, _ => rfl | 4, _, _ => rfl | 5, _, _ => rfl | 6, _, _ => rfl | 7, _, _ => rfl | _ + 9, _, _ => rfl
theorem kp_src (dA : Nat → ClassId) (w : cx_W) (j : Nat) (v : Option Nat) : ∀ x y, cx_dm w x y → ¬ (x = 8 ∧ y = j) → cx_ce dA (u_src w j v) x y = cx_ce dA w x y := fun x y hd hn => match x, hd, hn with
  | 8, _, hn => by
    have h : y ≠ j := fun q => hn ⟨rfl, q⟩
    simp [cx_ce, x_src, u_src, x_ad, va_up, h]
  | 0, _, _ => rfl | 1, _, _ => rfl | 2, _, _ => rfl | 3, _, _ => rfl | 4, _, _ => rfl | 5, _, _ => rfl | 6, _, _ => rfl | 7, _, _ => rfl | _ + 9, _, _ => rfl
/-- what the new cell is, where one part of the state changes -/
theorem nw_cnt (dA : Nat → ClassId) (w : cx_W) (t v : Nat) : cx_ce dA (u_cnt w t v) 1 t = .inr (1, [.int (cx_most t), .ref (x_ad w 2 t), .int (nI v)]) := by simp [cx_ce, x_cnt, u_cnt, x_ad, va_up]
theorem nw_val (dA : Nat → ClassId) (w : cx_W) (t i : Nat) (v : Int32) : cx_ce dA (u_val w t i v) 2 t = .inl (dA 0, 200, .inl (upd (x_val w t) i v)) := by simp [cx_ce, x_val, u_val, x_ad, va_up]
theorem nw_made (dA : Nat → ClassId) (w : cx_W) (k v : Nat) : cx_ce dA (u_made w k v) 4 k = .inr (2, [.ref (x_ad w 5 k), .int (nI v)]) := by simp [cx_ce, x_made, u_made, x_ad, va_up]
theorem nw_arr (dA : Nat → ClassId) (w : cx_W) (k i j : Nat) : cx_ce dA (u_arr w k i (some j)) 5 k = .inl (dA 3, 20, .inr (.inr (.inr (.inr (va_up (fun i => (x_arr w k i).map (x_ad w 8)) i (some (x_ad w 8 j))))))) := by
  have e : (fun q => (va_up (x_arr w) k (va_up (x_arr w k) i (some j)) k q).map (x_ad w 8)) = va_up (fun i => (x_arr w k i).map (x_ad w 8)) i (some (x_ad w 8 j)) := by
    funext q
    by_cases h : q = i <;> simp [va_up, h]
  show Sum.inl (dA 3, 20, Sum.inr (Sum.inr (Sum.inr (Sum.inr (fun q => (va_up (x_arr w) k (va_up (x_arr w k) i (some j)) k q).map (x_ad w 8)))))) = _
  rw [e]
theorem nw_st (dA : Nat → ClassId) (w : cx_W) (j : Nat) (v : Int64) : cx_ce dA (u_st w j v) 8 j = .inr (3, [va_rf ((x_src w j).map (x_ad w 8)), .long v, .int (x_tu w j), .int (x_us w j), .int (x_th w j)]) := by simp [cx_ce, x_st, u_st, x_ad, x_src, x_st, x_tu, x_us, x_th, va_up]
theorem nw_tu (dA : Nat → ClassId) (w : cx_W) (j : Nat) (v : Int32) : cx_ce dA (u_tu w j v) 8 j = .inr (3, [va_rf ((x_src w j).map (x_ad w 8)), .long (x_st w j), .int v, .int (x_us w j), .int (x_th w j)]) := by simp [cx_ce, x_tu, u_tu, x_ad, x_src, x_st, x_tu, x_us, x_th, va_up]
theorem nw_us (dA : Nat → ClassId) (w : cx_W) (j : Nat) (v : Int32) : cx_ce dA (u_us w j v) 8 j = .inr (3, [va_rf ((x_src w j).map (x_ad w 8)), .long (x_st w j), .int (x_tu w j), .int v, .int (x_th w j)]) := by simp [cx_ce, x_us, u_us, x_ad, x_src, x_st, x_tu, x_us, x_th, va_up]
theorem nw_th (dA : Nat → ClassId) (w : cx_W) (j : Nat) (v : Int32) : cx_ce dA (u_th w j v) 8 j = .inr (3, [va_rf ((x_src w j).map (x_ad w 8)), .long (x_st w j), .int (x_tu w j), .int (x_us w j), .int v]) := by simp [cx_ce, x_th, u_th, x_ad, x_src, x_st, x_tu, x_us, x_th, va_up]
theorem nw_src (dA : Nat → ClassId) (w : cx_W) (j : Nat) (v : Option Nat) : cx_ce dA (u_src w j v) 8 j = .inr (3, [va_rf (v.map (x_ad w 8)), .long (x_st w j), .int (x_tu w j), .int (x_us w j), .int (x_th w j)]) := by simp [cx_ce, x_src, u_src, x_ad, x_src, x_st, x_tu, x_us, x_th, va_up]
theorem to_ctr {D : va_G} {dA : Nat → ClassId} {b0 : Nat} {w : cx_W} {H : Heap} {i : Nat} {v : Int32} (h : cd_Wo D b0 (cx_dm w) (x_ad w) (cx_ce dA (u_ctr w i v)) H) : cx_Wo D dA b0 (u_ctr w i v) H := h
theorem to_cnt {D : va_G} {dA : Nat → ClassId} {b0 : Nat} {w : cx_W} {H : Heap} {i : Nat} {v : Nat} (h : cd_Wo D b0 (cx_dm w) (x_ad w) (cx_ce dA (u_cnt w i v)) H) : cx_Wo D dA b0 (u_cnt w i v) H := h
theorem to_val {D : va_G} {dA : Nat → ClassId} {b0 : Nat} {w : cx_W} {H : Heap} {t i : Nat} {v : Int32} (h : cd_Wo D b0 (cx_dm w) (x_ad w) (cx_ce dA (u_val w t i v)) H) : cx_Wo D dA b0 (u_val w t i v) H := h
theorem to_ans {D : va_G} {dA : Nat → ClassId} {b0 : Nat} {w : cx_W} {H : Heap} {i : Nat} {v : Int64} (h : cd_Wo D b0 (cx_dm w) (x_ad w) (cx_ce dA (u_ans w i v)) H) : cx_Wo D dA b0 (u_ans w i v) H := h
theorem to_fl {D : va_G} {dA : Nat → ClassId} {b0 : Nat} {w : cx_W} {H : Heap} {i : Nat} {v : Int32} (h : cd_Wo D b0 (cx_dm w) (x_ad w) (cx_ce dA (u_fl w i v)) H) : cx_Wo D dA b0 (u_fl w i v) H := h
theorem to_made {D : va_G} {dA : Nat → ClassId} {b0 : Nat} {w : cx_W} {H : Heap} {i : Nat} {v : Nat} (h : cd_Wo D b0 (cx_dm w) (x_ad w) (cx_ce dA (u_made w i v)) H) : cx_Wo D dA b0 (u_made w i v) H := h
theorem to_arr {D : va_G} {dA : Nat → ClassId} {b0 : Nat} {w : cx_W} {H : Heap} {k i : Nat} {v : Option Nat} (h : cd_Wo D b0 (cx_dm w) (x_ad w) (cx_ce dA (u_arr w k i v)) H) : cx_Wo D dA b0 (u_arr w k i v) H := h
theorem to_st {D : va_G} {dA : Nat → ClassId} {b0 : Nat} {w : cx_W} {H : Heap} {i : Nat} {v : Int64} (h : cd_Wo D b0 (cx_dm w) (x_ad w) (cx_ce dA (u_st w i v)) H) : cx_Wo D dA b0 (u_st w i v) H := h
theorem to_tu {D : va_G} {dA : Nat → ClassId} {b0 : Nat} {w : cx_W} {H : Heap} {i : Nat} {v : Int32} (h : cd_Wo D b0 (cx_dm w) (x_ad w) (cx_ce dA (u_tu w i v)) H) : cx_Wo D dA b0 (u_tu w i v) H := h
theorem to_us {D : va_G} {dA : Nat → ClassId} {b0 : Nat} {w : cx_W} {H : Heap} {i : Nat} {v : Int32} (h : cd_Wo D b0 (cx_dm w) (x_ad w) (cx_ce dA (u_us w i v)) H) : cx_Wo D dA b0 (u_us w i v) H := h
theorem to_th {D : va_G} {dA : Nat → ClassId} {b0 : Nat} {w : cx_W} {H : Heap} {i : Nat} {v : Int32} (h : cd_Wo D b0 (cx_dm w) (x_ad w) (cx_ce dA (u_th w i v)) H) : cx_Wo D dA b0 (u_th w i v) H := h
theorem to_src {D : va_G} {dA : Nat → ClassId} {b0 : Nat} {w : cx_W} {H : Heap} {i : Nat} {v : Option Nat} (h : cd_Wo D b0 (cx_dm w) (x_ad w) (cx_ce dA (u_src w i v)) H) : cx_Wo D dA b0 (u_src w i v) H := h
