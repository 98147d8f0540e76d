/-! what is looked up in the one and in the other -/
theorem al_of {w : cx_W} {m : cm_W} (h : Sim w m) {k i : Nat} (hk : k < 6) (hi : i < 20) : x_al w (64 * k + i + 1) ↔ i < x_made w k := by
  rw [h.2.2.2.1.2.2.2.1]
  constructor
  · rintro ⟨k', i', h1, h2, h3⟩
    have := h.2.2.2.1.1 k'
    have e : k = k' := by omega
    subst e
    omega
  · intro h1
    exact ⟨k, i, hk, h1, rfl⟩
theorem at_eq {w : cx_W} {m : cm_W} (h : Sim w m) {k n : Nat} (hk : k < 6) (hn : n < 20) : f_Shelf_at w k (nI n) = if x_mi m 6 (64 * k + 1 + n) = 0 then none else some (64 * k + 1 + n) := by
  unfold f_Shelf_at
  rw [if_neg (nI_pos (by omega)), if_pos (show nI n < 20 from nI_lt (b := 20) hn (by decide)), nI_clamp (by omega)]
  have e : 64 * k + 1 + n = 64 * k + n + 1 := by omega
  rw [e]
  have ha := h.2.2.2.1.2.2.1 k n hk hn
  by_cases hm : n < x_made w k
  · rw [if_pos hm] at ha
    rw [cd_oc_s ha]
    have hal := (al_of h hk hn).mpr hm
    rw [(h.2.2.2.2.1.1 _ hal).1]
  · rw [if_neg hm] at ha
    rw [cd_oc_n ha, if_pos (h.2.2.2.2.1.2.1 _ (by omega) (fun q => hm ((al_of h hk hn).mp q)))]
theorem at_out {w : cx_W} {k n : Nat} (hn : 20 ≤ n) (hn2 : n < 2 ^ 31) : f_Shelf_at w k (nI n) = none := by
  unfold f_Shelf_at
  rw [if_neg (nI_pos hn2), if_neg (show ¬ nI n < 20 from nI_nlt (b := 20) hn hn2)]
theorem ct_eq {w : cx_W} {m : cm_W} (h : Sim w m) {k : Nat} (hk : k < 6) : ∀ n, n ≤ 20 → f_ct_r w k n = f_nu_r m k n
  | 0, _ => rfl
  | n + 1, hn => by
    unfold f_ct_r f_nu_r
    rw [at_eq h hk (by omega), ct_eq h hk n (by omega)]
    by_cases q : x_mi m 6 (64 * k + 1 + n) = 0
    · rw [if_pos q, if_pos q]
      show _ = _ + 0
      exact (Int32.add_zero _).symm
    · rw [if_neg q, if_neg q]
      rfl
theorem nw_eq {w : cx_W} {m : cm_W} (h : Sim w m) {k : Nat} (hk : k < 6) : ∀ n, n ≤ 20 → f_la_r m k n = srcI (f_nw_r w k n)
  | 0, _ => rfl
  | n + 1, hn => by
    unfold f_nw_r f_la_r
    rw [at_eq h hk (by omega), nw_eq h hk n (by omega)]
    by_cases q : x_mi m 6 (64 * k + 1 + n) = 0
    · rw [if_pos q, if_pos q]
      rfl
    · rw [if_neg q, if_neg q]
      rfl
theorem latest_eq {w : cx_W} {m : cm_W} (h : Sim w m) {k : Nat} (hk : k < 6) : f_Model_latest m k = srcI (f_Shelf_newest w k) := nw_eq h hk 20 (Nat.le_refl _)
theorem nw_in {w : cx_W} {m : cm_W} (h : Sim w m) {k : Nat} (hk : k < 6) : ∀ n j, n ≤ 20 → f_nw_r w k n = some j → 64 * k < j ∧ j < 64 * k + 64 ∧ x_al w j ∧ ¬ x_mi m 6 j = 0
  | 0, j, _, e => by cases e
  | n + 1, j, hn, e => by
    unfold f_nw_r at e
    rw [at_eq h hk (by omega)] at e
    by_cases q : x_mi m 6 (64 * k + 1 + n) = 0
    · rw [if_pos q] at e
      exact nw_in h hk n j (by omega) e
    · rw [if_neg q] at e
      have e' : 64 * k + 1 + n = j := Option.some.inj e
      subst e'
      refine ⟨by omega, by omega, ?_, q⟩
      rw [show 64 * k + 1 + n = 64 * k + n + 1 by omega] at q ⊢
      exact Classical.byContradiction fun z => q (h.2.2.2.2.1.2.1 _ (by omega) z)
theorem sm_eq {w : cx_W} {m : cm_W} (h : Sim w m) (y : Int64) : ∀ n, n ≤ 20 → f_sm_r w 1 n + y = f_sp_r m y n
  | 0, _ => Int64.zero_add _
  | n + 1, hn => by
    unfold f_sm_r f_sp_r
    rw [at_eq h (by decide) (by omega), ← sm_eq h y n (by omega), show 64 * 1 + 1 + n = 65 + n by omega]
    by_cases q : x_mi m 6 (65 + n) = 0
    · rw [if_pos q, if_pos q]
      show _ = _ + 0
      exact (Int64.add_zero _).symm
    · rw [if_neg q, if_neg q]
      have hal : x_al w (65 + n) := Classical.byContradiction fun z => q (h.2.2.2.2.1.2.1 _ (by omega) z)
      rw [(h.2.2.2.2.1.1 _ hal).2.2.1]
      show f_sm_r w 1 n + x_st w (65 + n) + y = f_sm_r w 1 n + y + x_st w (65 + n)
      rw [Int64.add_assoc, Int64.add_comm (x_st w (65 + n)), ← Int64.add_assoc]
theorem thing_eq {w : cx_W} {m : cm_W} (h : Sim w m) {a : Nat} (ha : a < 384) : f_CarDesk_thingOf w (lN a) = if x_mi m 6 a = 0 then none else some a := by
  unfold f_CarDesk_thingOf
  have h0 : ¬ lN a < 0 := fun q => absurd ((pk_lLT (by omega) (by decide)).mp (show lN a < lN 0 from q)) (by omega)
  have h1 : lN a < 384 := (pk_lLT (b := 384) (by omega) (by decide)).mpr ha
  rw [if_neg h0, if_pos h1, lN_i, show (64 : Int32) = nI 64 from rfl, pk_rem (by omega) (by decide) (by decide), pk_div (by omega) (by decide) (by decide), nI_clamp (by omega)]
  have hk : a / 64 < 6 := by omega
  by_cases hr : a % 64 = 0
  · rw [hr]
    have e : f_Shelf_at w (a / 64) (nI 0 - 1) = none := by
      unfold f_Shelf_at
      rw [if_pos (by decide)]
    rw [e, if_pos (h.2.2.2.2.1.2.1 a ha (fun z => ?_))]
    obtain ⟨k, i, h1, h2, h3⟩ := (h.2.2.2.1.2.2.2.1 a).mp z
    have := h.2.2.2.1.1 k
    omega
  · obtain ⟨i, hi⟩ : ∃ i, a % 64 = i + 1 := ⟨a % 64 - 1, by omega⟩
    rw [hi, nI_pred]
    have ea : a = 64 * (a / 64) + 1 + i := by omega
    by_cases h20 : i < 20
    · rw [at_eq h hk h20, ← ea]
    · rw [at_out (by omega) (by omega), if_pos (h.2.2.2.2.1.2.1 a ha (fun z => ?_))]
      obtain ⟨k, i', h1, h2, h3⟩ := (h.2.2.2.1.2.2.2.1 a).mp z
      have := h.2.2.2.1.1 k
      omega
theorem thing_out {w : cx_W} {x : Int64} (h : x < 0 ∨ ¬ x < 384) : f_CarDesk_thingOf w x = none := by
  unfold f_CarDesk_thingOf
  rcases h with h | h
  · rw [if_pos h]
  · by_cases h0 : x < 0
    · rw [if_pos h0]
    · rw [if_neg h0, if_neg h]
theorem al_t6 {w : cx_W} {m : cm_W} (h : Sim w m) {a : Nat} (ha : a < 384) (q : ¬ x_mi m 6 a = 0) : x_al w a := Classical.byContradiction fun z => q (h.2.2.2.2.1.2.1 _ ha z)
theorem cu_le (th fo : Nat → Int32) (x : Int32) : ∀ n, cu th fo x n ≤ n
  | 0 => Nat.le_refl _
  | n + 1 => by
    have := cu_le th fo x n
    unfold cu
    repeat' split
    all_goals omega
theorem us_cu (m : cm_W) (x : Int32) : ∀ n, f_us_r m x n = 0 ↔ cu (x_mi m 6) (x_mi m 9) x n = 0
  | 0 => ⟨fun _ => rfl, fun _ => rfl⟩
  | n + 1 => by
    have ih := us_cu m x n
    unfold f_us_r cu
    by_cases h0 : f_us_r m x n = 0
    · rw [if_pos h0, ih.mp h0]
      by_cases h1 : x_mi m 6 n = 0
      · rw [if_pos h1, if_pos h1]; simp
      · rw [if_neg h1, if_neg h1]
        by_cases h2 : x_mi m 9 n = x
        · rw [if_pos h2, if_pos h2]; simp
        · rw [if_neg h2, if_neg h2]; simp
    · rw [if_neg h0]
      have : cu (x_mi m 6) (x_mi m 9) x n ≠ 0 := fun q => h0 (ih.mpr q)
      constructor
      · intro q; exact absurd q (by decide)
      · intro q; omega
theorem used_eq {w : cx_W} {m : cm_W} (h : Sim w m) {q : Nat} (hq : x_al w q) : f_Thing_isInUse w q = 0 ↔ f_Model_isUsed m (nI q) = 0 := by
  unfold f_Thing_isInUse f_Model_isUsed
  rw [us_cu, h.2.2.2.2.2 q hq]
  have hc := cu_le (x_mi m 6) (x_mi m 9) (nI q) 384
  by_cases h0 : cu (x_mi m 6) (x_mi m 9) (nI q) 384 = 0
  · rw [h0, if_pos (by decide)]; simp
  · rw [if_neg (nI_nle (by omega) (by omega))]
    constructor
    · intro z; exact absurd z (by decide)
    · intro z; exact absurd z h0
theorem kind_in {x : Int32} (h : vp_in x 6) : ¬ f_CarDesk_isKind x = 0 := by
  obtain ⟨j, hj, rfl⟩ := vp_in_of h (by decide)
  unfold f_CarDesk_isKind
  rw [if_neg (nI_pos (by omega)), if_neg (show ¬ (6 : Int32) ≤ nI j from nI_ge (b := 6) hj (by decide))]
  decide
theorem kind_out {x : Int32} (h : ¬ vp_in x 6) : f_CarDesk_isKind x = 0 := Classical.byContradiction fun q => h (cd_kind q)
theorem sim_numbers {w : cx_W} {m : cm_W} (h : Sim w m) {k : Nat} (hk : k < 6) : f_CarDesk_numbers w (nI k) = (f_Model_numbers m k).1 ∧ Sim w (f_Model_numbers m k).2 := by
  refine ⟨?_, sim_code h⟩
  unfold f_CarDesk_numbers f_Model_numbers
  rw [if_neg (kind_in (vp_in_nI hk (by decide))), nI_clamp (by omega)]
  exact ct_eq h hk 20 (Nat.le_refl _)
theorem sim_numbers0 {w : cx_W} {m : cm_W} (h : Sim w m) {x : Int32} (hk : ¬ vp_in x 6) : f_CarDesk_numbers w x = (f_Model_numbers0 m x).1 ∧ Sim w (f_Model_numbers0 m x).2 := by
  refine ⟨?_, sim_code h⟩
  unfold f_CarDesk_numbers f_Model_numbers0
  rw [if_pos (kind_out hk)]
