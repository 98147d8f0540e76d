/-! ONE WORLD, SEEN FROM BOTH SIDES -/
def jE : va_E := .inr (0, [])
def crM (dA : Nat → ClassId) (μ : cm_S) (ad : Nat → Nat → Nat) : Nat → Nat → va_E := fun a b => cm_ce dA (μ, ad, (fun _ _ => False), (fun _ _ => jE)) (a + 9) b
def drM : Nat → Nat → Prop := fun a b => match a with
  | 0 => b = 0
  | 1 => b < 11
  | _ => False
def crX (dA : Nat → ClassId) (σ : cx_S) (ad : Nat → Nat → Nat) : Nat → Nat → va_E := cx_ce dA (σ, ad, (fun _ _ => False), (fun _ _ => jE))
def drX (σ : cx_S) : Nat → Nat → Prop := cx_dm (σ, (fun _ _ => 0), (fun _ _ => False), (fun _ _ => jE))
abbrev wj (dA : Nat → ClassId) (σ : cx_S) (μ : cm_S) (ad : Nat → Nat → Nat) : cx_W := (σ, ad, drM, crM dA μ ad)
abbrev mj (dA : Nat → ClassId) (σ : cx_S) (μ : cm_S) (ad : Nat → Nat → Nat) : cm_W := (μ, ad, drX σ, crX dA σ ad)
theorem crM_ad {dA : Nat → ClassId} {μ : cm_S} {ad ad' : Nat → Nat → Nat} (h : ∀ b, ad' 10 b = ad 10 b) : crM dA μ ad' = crM dA μ ad := by
  funext a b
  match a with
  | 0 =>
    show (.inr (4, _) : va_E) = .inr (4, _)
    simp only [m_ad, h]
  | 1 => rfl
  | _ + 2 => rfl
theorem crX_ad {dA : Nat → ClassId} {σ : cx_S} {ad ad' : Nat → Nat → Nat} (h : ∀ a b, a < 9 → ad' a b = ad a b) : crX dA σ ad' = crX dA σ ad := by
  have e : ∀ a, a < 9 → ad' a = ad a := fun a ha => funext fun b => h a b ha
  funext a b
  match a with
  | 0 => simp only [crX, cx_ce, x_ad, h _ _ (show 1 < 9 by decide), h _ _ (show 3 < 9 by decide), h _ _ (show 6 < 9 by decide), h _ _ (show 7 < 9 by decide)]
  | 1 => simp only [crX, cx_ce, x_ad, h _ _ (show 2 < 9 by decide)]
  | 2 => rfl
  | 3 => simp only [crX, cx_ce, x_ad, e 4 (by decide)]
  | 4 => simp only [crX, cx_ce, x_ad, h _ _ (show 5 < 9 by decide)]
  | 5 => simp only [crX, cx_ce, x_ad, e 8 (by decide)]
  | 6 => rfl
  | 7 => rfl
  | 8 => simp only [crX, cx_ce, x_ad, e 8 (by decide)]
  | _ + 9 => rfl
theorem br_m0 {D : va_G} {dA : Nat → ClassId} {b0 : Nat} {σ : cx_S} {μ : cm_S} {ad : Nat → Nat → Nat} {H : Heap} (h : cx_Wo D dA b0 (wj dA σ μ ad) H) : cm_Wo D dA b0 (mj dA σ μ ad) H :=
  h.sub (fun x y hd => match x, hd with
    | 0, hd => ⟨hd, rfl, rfl⟩ | 1, hd => ⟨hd, rfl, rfl⟩ | 2, hd => ⟨hd, rfl, rfl⟩ | 3, hd => ⟨hd, rfl, rfl⟩ | 4, hd => ⟨hd, rfl, rfl⟩ | 5, hd => ⟨hd, rfl, rfl⟩ | 6, hd => ⟨hd, rfl, rfl⟩ | 7, hd => ⟨hd, rfl, rfl⟩ | 8, hd => ⟨hd, rfl, rfl⟩ | 9, hd => ⟨hd, rfl, rfl⟩ | 10, hd => ⟨hd, rfl, rfl⟩ | _ + 11, hd => False.elim hd)
theorem br_x0 {D : va_G} {dA : Nat → ClassId} {b0 : Nat} {σ : cx_S} {μ : cm_S} {ad : Nat → Nat → Nat} {H : Heap} (h : cm_Wo D dA b0 (mj dA σ μ ad) H) : cx_Wo D dA b0 (wj dA σ μ ad) H :=
  h.sub (fun x y hd => match x, hd with
    | 0, hd => ⟨hd, rfl, rfl⟩ | 1, hd => ⟨hd, rfl, rfl⟩ | 2, hd => ⟨hd, rfl, rfl⟩ | 3, hd => ⟨hd, rfl, rfl⟩ | 4, hd => ⟨hd, rfl, rfl⟩ | 5, hd => ⟨hd, rfl, rfl⟩ | 6, hd => ⟨hd, rfl, rfl⟩ | 7, hd => ⟨hd, rfl, rfl⟩ | 8, hd => ⟨hd, rfl, rfl⟩ | 9, hd => ⟨hd, rfl, rfl⟩ | 10, hd => ⟨hd, rfl, rfl⟩ | _ + 11, hd => False.elim hd)
theorem br_m {D : va_G} {dA : Nat → ClassId} {b0 : Nat} {w0 : cx_W} {μ : cm_S} {ad : Nat → Nat → Nat} {H : Heap} (e : w0.2 = (ad, drM, crM dA μ ad)) (h : cx_Wo D dA b0 w0 H) : cm_Wo D dA b0 (mj dA w0.1 μ ad) H :=
  br_m0 (by rw [show wj dA w0.1 μ ad = w0 from Prod.ext rfl e.symm]; exact h)
theorem br_x {D : va_G} {dA : Nat → ClassId} {b0 : Nat} {m0 : cm_W} {σ : cx_S} {ad : Nat → Nat → Nat} {H : Heap} (e : m0.2 = (ad, drX σ, crX dA σ ad)) (h : cm_Wo D dA b0 m0 H) : cx_Wo D dA b0 (wj dA σ m0.1 ad) H :=
  br_x0 (by rw [show mj dA σ m0.1 ad = m0 from Prod.ext rfl e.symm]; exact h)
/-! what a call does not touch -/
theorem k_collect (w : cx_W) (x : Int32) (y : Int64) : (f_CarDesk_collect w x y).2.2 = w.2 := by
  unfold f_CarDesk_collect
  cases f_CarDesk_trayOfSort x with
  | none => rfl
  | some j =>
    simp only [cd_oc]
    repeat' split
    all_goals rfl
theorem k_answer (w : cx_W) (x : Int32) (y : Int64) : (f_CarDesk_answer w x y).2.2 = w.2 := by
  unfold f_CarDesk_answer
  repeat' split
  all_goals rfl
theorem k_fails (w : cx_W) (x y : Int32) : (f_CarDesk_fails w x y).2.2 = w.2 := by
  unfold f_CarDesk_fails
  repeat' split
  all_goals rfl
theorem k_call (w : cx_W) (x n : Int32) (y : Int64) : (f_CarDesk_call w x n y).2.2 = w.2 := by
  unfold f_CarDesk_call
  cases f_CarDesk_thingForCall w x n.toInt64 with
  | none => rfl
  | some j =>
    simp only [cd_oc]
    unfold f_CarDesk_changeByCall
    repeat' split
    all_goals rfl
theorem k_drop (w : cx_W) (x : Int32) : (f_CarDesk_drop w x).2.2 = w.2 := by
  unfold f_CarDesk_drop
  cases f_CarDesk_thingOf w x.toInt64 with
  | none => rfl
  | some j =>
    simp only [cd_oc]
    repeat' split
    all_goals rfl
theorem k_make (w : cx_W) (x : Int32) (q : Nat) : ∃ ad', (f_CarDesk_make w x q).2.2 = (ad', w.2.2) ∧ ∀ a b, a ≠ 8 → ad' a b = w.2.1 a b := by
  unfold f_CarDesk_make
  split
  · exact ⟨_, rfl, fun _ _ _ => rfl⟩
  · split
    · exact ⟨_, rfl, fun _ _ _ => rfl⟩
    · split
      · refine ⟨ad2 w.2.1 8 (nj w x.toNatClampNeg) q, ?_, fun a b h => ad2_n (fun z => h z.1)⟩
        rfl
      · exact ⟨_, rfl, fun _ _ _ => rfl⟩
theorem km_collect (w : cm_W) (x : Int32) (y : Int64) : (f_Model_collect w x y).2.2 = w.2 := by
  unfold f_Model_collect
  repeat' split
  all_goals rfl
theorem km_answer (w : cm_W) (x : Int32) (y : Int64) : (f_Model_answer w x y).2.2 = w.2 := by
  unfold f_Model_answer
  repeat' split
  all_goals rfl
theorem km_fails (w : cm_W) (x y : Int32) : (f_Model_fails w x y).2.2 = w.2 := by
  unfold f_Model_fails
  repeat' split
  all_goals rfl
theorem km_call (w : cm_W) (x n : Int32) (y : Int64) : (f_Model_call w x n y).2.2 = w.2 := by
  unfold f_Model_call
  repeat' split
  all_goals rfl
theorem km_again (w : cm_W) (x n : Int32) (y : Int64) : (f_Model_again w x n y).2.2 = w.2 := by
  unfold f_Model_again
  repeat' split
  all_goals rfl
theorem km_told (w : cm_W) (x : Int32) : (f_Model_told w x).2.2 = w.2 := by
  unfold f_Model_told
  repeat' split
  all_goals rfl
theorem km_drop (w : cm_W) (x : Int32) : (f_Model_drop w x).2.2 = w.2 := by
  unfold f_Model_drop
  repeat' split
  all_goals rfl
theorem km_make0 (w : cm_W) : (f_Model_make0 w).2.2 = w.2 := by
  unfold f_Model_make0
  repeat' split
  all_goals rfl
theorem km_make1 (w : cm_W) : (f_Model_make1 w).2.2 = w.2 := by
  unfold f_Model_make1
  repeat' split
  all_goals rfl
theorem km_make2 (w : cm_W) : (f_Model_make2 w).2.2 = w.2 := by
  unfold f_Model_make2
  repeat' split
  all_goals rfl
theorem km_make3 (w : cm_W) : (f_Model_make3 w).2.2 = w.2 := by
  unfold f_Model_make3
  repeat' split
  all_goals rfl
theorem km_make4 (w : cm_W) : (f_Model_make4 w).2.2 = w.2 := by
  unfold f_Model_make4
  repeat' split
  all_goals rfl
theorem km_make5 (w : cm_W) : (f_Model_make5 w).2.2 = w.2 := by
  unfold f_Model_make5
  repeat' split
  all_goals rfl
theorem km_makeR (w : cm_W) (x : Int32) : (f_Model_makeR w x).2.2 = w.2 := by
  unfold f_Model_makeR
  repeat' split
  all_goals rfl
/-! the start; what call asks of `of` -/
theorem sim_00 (p : (Nat → Nat → Nat) × (Nat → Nat → Prop) × (Nat → Nat → va_E)) (q : (Nat → Nat → Nat) × (Nat → Nat → Prop) × (Nat → Nat → va_E)) : Sim (cx_0, p) (cm_0, q) := by
  refine ⟨fun _ _ => rfl, ⟨fun _ => Nat.zero_le _, ⟨rfl, fun i h => absurd h (Nat.not_lt_zero _)⟩, ⟨rfl, fun i h => absurd h (Nat.not_lt_zero _)⟩, ⟨rfl, fun i h => absurd h (Nat.not_lt_zero _)⟩⟩, fun _ _ => ⟨rfl, rfl, 0, by decide, rfl⟩, ⟨fun _ => Nat.zero_le _, fun _ _ => rfl, fun k i _ _ => (if_neg (show ¬ i < 0 by omega)).symm, fun j => ⟨False.elim, fun ⟨_, _, _, h, _⟩ => absurd h (Nat.not_lt_zero _)⟩, fun _ _ _ h => by cases h⟩, ⟨fun _ h => False.elim h, fun _ _ _ => rfl, fun _ _ h => False.elim h, fun _ h => False.elim h⟩, fun _ h => False.elim h⟩
theorem sim_hof {w : cx_W} {m : cm_W} (h : Sim w m) (x n : Int32) (y : Int64) : f_Model_why (u_mc m 0 0) x n y = 0 → (x - x / 6 * 6) = 3 → vp_in (x_mi m 9 n.toNatClampNeg) 384 := fun hw h3 => by
  obtain ⟨a, k, hx, ha, rfl, -, hal, hk, ek, h1, h2, -⟩ := why_0 (sim_code h) hw
  have e3 : k = 3 := by
    rw [ek] at h3
    exact (nI_eq (by omega) (by decide)).mp h3
  subst e3
  rw [nI_clamp (by omega)]
  obtain ⟨q, hq⟩ := h.2.2.2.2.1.2.2.2 a hal (by omega) (by omega)
  obtain ⟨-, -, -, -, -, e9⟩ := h.2.2.2.2.1.1 a hal
  rw [e9, hq]
  exact vp_in_nI (h.lt (h.2.2.2.2.1.2.2.1 a q hal hq)) (by decide)
