/-! call, again -/
theorem tfc {w : cx_W} {m : cm_W} (h : Sim w m) {x : Int32} (hx : vp_in x 24) (y : Int64) : (f_Model_isThere m y (x - x / 6 * 6) = 0 ∧ f_CarDesk_thingForCall w x y = none) ∨ ∃ a k, a < 384 ∧ y = lN a ∧ ¬ f_Model_isThere m y (x - x / 6 * 6) = 0 ∧ f_CarDesk_thingForCall w x y = some a ∧ x_al w a ∧ k < 6 ∧ x - x / 6 * 6 = nI k ∧ 64 * k < a ∧ a < 64 * k + 64 := by
  obtain ⟨k, hk, ek⟩ := vp_in_of (cm_rem6 hx) (by decide)
  unfold f_CarDesk_thingForCall f_Model_isThere
  rw [if_neg (call_in hx).1, ek, cm_e64 hk]
  by_cases h0 : y < 0
  · refine Or.inl ⟨?_, ?_⟩
    · rw [if_pos]
      rw [Int64.lt_iff_toInt_lt] at h0
      rw [Int64.le_iff_toInt_le, pk_lT (by omega)]
      have : (0 : Int64).toInt = 0 := by decide
      omega
    · split
      · exact thing_out (Or.inl h0)
      · rfl
  obtain ⟨a, ha, rfl⟩ := pk_lOf h0
  rw [show (64 : Int64) = lN 64 from rfl, pk_lDiv ha (by decide) (by decide), lN_add, nI_l (by omega)]
  by_cases hak : a / 64 = k
  · rw [hak, if_pos rfl]
    have ha4 : a < 384 := by omega
    rw [thing_eq h ha4]
    rw [if_neg (show ¬ lN (64 * k + 64) ≤ lN a from fun q => absurd ((pk_lLE (by omega) ha).mp q) (by omega))]
    by_cases hq : x_mi m 6 a = 0
    · refine Or.inl ⟨?_, by rw [if_pos hq]⟩
      split
      · rfl
      · rw [lN_i, nI_clamp (by omega), if_pos hq]
    · have hal := al_t6 h ha4 hq
      have hne : 64 * k < a := by
        obtain ⟨k', i, h1, h2, h3⟩ := (h.2.2.2.1.2.2.2.1 a).mp hal
        have := h.2.2.2.1.1 k'
        omega
      refine Or.inr ⟨a, k, ha4, rfl, ?_, by rw [if_neg hq], hal, hk, rfl, hne, by omega⟩
      rw [if_neg (fun q => absurd ((pk_lLE ha (by omega)).mp q) (by omega)), lN_i, nI_clamp (by omega), if_neg hq]
      decide
  · rw [if_neg (fun q => hak ((pk_lEQ (by omega) (by omega)).mp q))]
    refine Or.inl ⟨?_, rfl⟩
    by_cases h1 : a ≤ 64 * k
    · rw [if_pos ((pk_lLE ha (by omega)).mpr h1)]
    · rw [if_neg (fun q => h1 ((pk_lLE ha (by omega)).mp q)), if_pos ((pk_lLE (by omega) ha).mpr (by omega))]
theorem n_of64 {n : Int32} {a : Nat} (h : n.toInt64 = lN a) (ha : a < 384) : n = nI a := by
  apply Int32.toInt_inj.mp
  rw [nI_toInt (by omega), ← Int32.toInt_toInt64, h, pk_lT (by omega)]
theorem tu_50 {w : cx_W} {m : cm_W} (h : Sim w m) {a : Nat} (hal : x_al w a) : (if x_mi m 8 a = 50 then (-4 : Int32) else 0) = if x_tu w a < 50 then 0 else -4 := by
  obtain ⟨-, -, -, e, ⟨t, ht, et⟩, -⟩ := h.2.2.2.2.1.1 a hal
  rw [e, et]
  by_cases h5 : t = 50
  · subst h5
    decide
  · rw [if_neg (fun q : nI t = 50 => h5 ((nI_eq (by omega) (by decide)).mp (show nI t = nI 50 from q))), if_pos (show nI t < 50 from nI_lt (b := 50) (by omega) (by decide))]
theorem why_rest {w : cx_W} {m : cm_W} (h : Sim w m) {x c : Int32} {a : Nat} (ha : a < 384) (hal : x_al w a) (y : Int64) : (if (f_Model_isFar y) = 0 then (if (x / 6) = 2 then (if c = 0 then (if (f_Model_isUsed m (nI a)) = 0 then (if (x_mi m 8 (nI a).toNatClampNeg) = 50 then (-4) else 0) else (-3)) else if (x_mi m 8 (nI a).toNatClampNeg) = 50 then (-4) else 0) else 0) else (-2) : Int32) = if (f_CarDesk_isArgument y) = 0 then (-2) else if (x / 6) = 2 then (f_CarDesk_refusalOfStep w c a) else 0 := by
  rw [nI_clamp (by omega), tu_50 h hal]
  have hu := used_eq h hal
  rcases arg_far y with ⟨a1, a2⟩ | ⟨a1, a2⟩
  · rw [if_pos a1, if_neg a2]
  · rw [if_neg a1, if_pos a2]
    unfold f_CarDesk_refusalOfStep
    by_cases h2 : x / 6 = 2
    · rw [if_pos h2, if_pos h2]
      by_cases h3 : c = 0
      · rw [if_pos h3, if_pos h3]
        by_cases h4 : f_Thing_isInUse w a = 0
        · rw [if_pos h4, if_pos (hu.mp h4)]
        · rw [if_neg h4, if_neg (fun z => h4 (hu.mpr z))]
      · rw [if_neg h3, if_neg h3]
    · rw [if_neg h2, if_neg h2]
theorem div6 {x : Int32} (hx : vp_in x 24) : (x ≤ 17 ∧ ¬ x / 6 = 3) ∨ (¬ x ≤ 17 ∧ x / 6 = 3) := by
  obtain ⟨j, hj, rfl⟩ := vp_in_of hx (by decide)
  rw [show (6 : Int32) = nI 6 from rfl, pk_div (by omega) (by decide) (by decide), show (17 : Int32) = nI 17 from rfl, show (3 : Int32) = nI 3 from rfl, nI_leI (by omega) (by decide), nI_eq (by omega) (by decide)]
  omega
theorem sim_why {w : cx_W} {m : cm_W} (h : Sim w m) (x n : Int32) (y : Int64) : f_Model_why m x n y = f_CarDesk_refusalOfCall w x (f_CarDesk_thingForCall w x n.toInt64) y := by
  by_cases hx : vp_in x 24
  · obtain ⟨-, c2, -, c4⟩ := call_in hx
    unfold f_Model_why
    rw [if_neg c2, if_neg c4]
    rcases tfc h hx n.toInt64 with ⟨g1, g2⟩ | ⟨a, k, ha, en, g1, g2, hal, hk, ek, -⟩
    · rw [if_pos g1, g2]
      rfl
    · rw [if_neg g1, g2]
      have en' := n_of64 en ha
      subst en'
      show _ = if (x / 6) = 3 then (cd_oc (f_CarDesk_thingForCall w x y) (-1) (fun _ => if (f_CarDesk_isArgument y) = 0 then (-2) else if (x / 6) = 2 then (f_CarDesk_refusalOfStep w (x - x / 6 * 6) a) else 0)) else if (f_CarDesk_isArgument y) = 0 then (-2) else if (x / 6) = 2 then (f_CarDesk_refusalOfStep w (x - x / 6 * 6) a) else 0
      rcases div6 hx with ⟨d1, d2⟩ | ⟨d1, d2⟩
      · rw [if_pos d1, if_neg d2]
        exact why_rest h ha hal y
      · rw [if_neg d1, if_pos d2]
        rcases tfc h hx y with ⟨e1, e2⟩ | ⟨b, kb, hb, eb, e1, e2, -⟩
        · rw [if_pos e1, cd_oc_n e2]
        · rw [if_neg e1, cd_oc_s e2]
          exact why_rest h ha hal y
  · obtain ⟨c1, c2⟩ := call_out hx
    have e : f_CarDesk_thingForCall w x n.toInt64 = none := by
      unfold f_CarDesk_thingForCall
      rw [if_pos c1]
    rw [e]
    unfold f_Model_why
    rcases c2 with c2 | ⟨c2, -, c4⟩
    · rw [if_pos c2]
      rfl
    · rw [if_neg c2, if_pos c4]
      rfl
theorem shl0 (s : Int64) : f_CarDesk_turnedLeft s 0 = s := by
  unfold f_CarDesk_turnedLeft
  rw [show ((0 : Int32).toInt64 &&& 63) = 0 by decide, show ((64 - (0 : Int32)).toInt64.toUInt64 &&& Int64.toUInt64 63) = 0 by decide]
  simp
theorem sim_step {w : cx_W} {m : cm_W} (h : Sim w m) {x : Int32} (hx : vp_in x 24) {a k : Nat} (ha : a < 384) (hal : x_al w a) (hk : k < 6) (ek : x - x / 6 * 6 = nI k) (h1 : 64 * k < a) (h2 : a < 64 * k + 64) (y : Int64) : f_CarDesk_steppedState w x a y = f_Model_stepped m x (nI a) y := by
  obtain ⟨e6, -, e7, e8, -, e9⟩ := h.2.2.2.2.1.1 a hal
  obtain ⟨ea, -⟩ := h.2.2.1 _ (cd_vlt hx)
  unfold f_CarDesk_steppedState f_Model_stepped
  rw [nI_clamp (show a < 2 ^ 31 by omega), e7, ea, ek]
  by_cases c0 : nI k = 0
  · rw [if_pos c0, if_pos c0]
  rw [if_neg c0, if_neg c0]
  by_cases c1 : nI k = 1
  · rw [if_pos c1, if_pos c1]
  rw [if_neg c1, if_neg c1]
  by_cases c2 : nI k = 2
  · rw [if_pos c2, if_pos c2]
    by_cases cb : (y &&& 63).toInt32 = 0
    · rw [if_pos cb, cb]
      exact shl0 _
    · rw [if_neg cb]
      rfl
  rw [if_neg c2, if_neg c2]
  by_cases c3 : nI k = 3
  · rw [if_pos c3, if_pos c3]
    have k3 : k = 3 := (nI_eq (by omega) (by decide)).mp (show nI k = nI 3 from c3)
    obtain ⟨q, hq⟩ := h.2.2.2.2.1.2.2.2 a hal (by omega) (by omega)
    have hql := h.2.2.2.2.1.2.2.1 a q hal hq
    have hq4 := h.lt hql
    rw [e9, hq]
    unfold f_Thing_stateOfSource
    rw [cd_oc_s hq]
    show x_st w a + x_st w q + y = x_st w a + x_ml m 7 (nI q).toNatClampNeg + y
    rw [nI_clamp (by omega), (h.2.2.2.2.1.1 q hql).2.2.1]
  rw [if_neg c3, if_neg c3]
  by_cases c4 : nI k = 4
  · rw [if_pos c4, if_pos c4]
  rw [if_neg c4, if_neg c4]
  exact sm_eq h y 20 (Nat.le_refl _)
theorem sim_out {w : cx_W} {m : cm_W} (h : Sim w m) {x : Int32} (hx : vp_in x 24) {a : Nat} (ha : a < 384) (hal : x_al w a) (y : Int64) (hy : x / 6 = 3 → ∃ b, b < 384 ∧ y = lN b ∧ f_CarDesk_thingForCall w x y = some b ∧ x_al w b) : f_CarDesk_outcomeOfCall w x a y = f_Model_answerOf m x (nI a) y := by
  obtain ⟨e6, -, e7, e8, -, e9⟩ := h.2.2.2.2.1.1 a hal
  obtain ⟨ea, -⟩ := h.2.2.1 _ (cd_vlt hx)
  unfold f_CarDesk_outcomeOfCall f_Model_answerOf
  rw [nI_clamp (show a < 2 ^ 31 by omega), e7, ea, e8]
  by_cases c0 : x / 6 = 0
  · rw [if_pos c0, if_pos c0]
  rw [if_neg c0, if_neg c0]
  by_cases c1 : x / 6 = 1
  · rw [if_pos c1, if_pos c1]
  rw [if_neg c1, if_neg c1]
  by_cases c2 : x / 6 = 2
  · rw [if_pos c2, if_pos c2]
  rw [if_neg c2, if_neg c2]
  have c3 : x / 6 = 3 := by
    obtain ⟨j, hj, rfl⟩ := vp_in_of hx (by decide)
    rw [show (6 : Int32) = nI 6 from rfl, pk_div (by omega) (by decide) (by decide)] at c0 c1 c2 ⊢
    rw [show (0 : Int32) = nI 0 from rfl, nI_eq (by omega) (by decide)] at c0
    rw [show (1 : Int32) = nI 1 from rfl, nI_eq (by omega) (by decide)] at c1
    rw [show (2 : Int32) = nI 2 from rfl, nI_eq (by omega) (by decide)] at c2
    rw [show (3 : Int32) = nI 3 from rfl, nI_eq (by omega) (by decide)]
    omega
  obtain ⟨b, hb, eb, et, hbl⟩ := hy c3
  rw [cd_oc_s et, eb, lN_i, nI_clamp (by omega), (h.2.2.2.2.1.1 b hbl).2.2.1]
  unfold f_Thing_comparedWith
  show (if x_st w b ≤ x_st w a then (if x_st w a = x_st w b then (1 : Int32) else 2) else 0).toInt64 = _
  by_cases d1 : x_st w b ≤ x_st w a
  · rw [if_pos d1, if_pos d1]
    by_cases d2 : x_st w a = x_st w b
    · rw [if_pos d2, if_pos d2]
      decide
    · rw [if_neg d2, if_neg d2]
      decide
  · rw [if_neg d1, if_neg d1]
    decide
theorem why_0 {w : cx_W} {m : cm_W} (h : Sim w m) {x n : Int32} {y : Int64} (hw : f_Model_why m x n y = 0) : ∃ a k, vp_in x 24 ∧ a < 384 ∧ n = nI a ∧ f_CarDesk_thingForCall w x n.toInt64 = some a ∧ x_al w a ∧ k < 6 ∧ x - x / 6 * 6 = nI k ∧ 64 * k < a ∧ a < 64 * k + 64 ∧ f_CarDesk_refusalOfCall w x (some a) y = 0 ∧ (x / 6 = 3 → ∃ b, b < 384 ∧ y = lN b ∧ f_CarDesk_thingForCall w x y = some b ∧ x_al w b) ∧ (x / 6 = 2 → x_tu w a < 50) := by
  have hx := (why_in hw).1
  have e := sim_why h x n y
  rw [hw] at e
  rcases tfc h hx n.toInt64 with ⟨g1, g2⟩ | ⟨a, k, ha, en, g1, g2, hal, hk, ek, h1, h2⟩
  · rw [g2] at e
    exact absurd (show (0 : Int32) = -1 from e) (by decide)
  · rw [g2] at e
    refine ⟨a, k, hx, ha, n_of64 en ha, g2, hal, hk, ek, h1, h2, e.symm, fun d2 => ?_, fun d2 => ?_⟩
    · have e' : (0 : Int32) = if (x / 6) = 3 then (cd_oc (f_CarDesk_thingForCall w x y) (-1) (fun _ => if (f_CarDesk_isArgument y) = 0 then (-2) else if (x / 6) = 2 then (f_CarDesk_refusalOfStep w (x - x / 6 * 6) a) else 0)) else if (f_CarDesk_isArgument y) = 0 then (-2) else if (x / 6) = 2 then (f_CarDesk_refusalOfStep w (x - x / 6 * 6) a) else 0 := e
      rw [if_pos d2] at e'
      rcases tfc h hx y with ⟨e1, e2⟩ | ⟨b, kb, hb, eb, e1, e2, hbl, -⟩
      · rw [cd_oc_n e2] at e'
        exact absurd e' (by decide)
      · exact ⟨b, hb, eb, e2, hbl⟩
    · have e' : (0 : Int32) = if (x / 6) = 3 then (cd_oc (f_CarDesk_thingForCall w x y) (-1) (fun _ => if (f_CarDesk_isArgument y) = 0 then (-2) else if (x / 6) = 2 then (f_CarDesk_refusalOfStep w (x - x / 6 * 6) a) else 0)) else if (f_CarDesk_isArgument y) = 0 then (-2) else if (x / 6) = 2 then (f_CarDesk_refusalOfStep w (x - x / 6 * 6) a) else 0 := e
      rw [if_neg (by rw [d2]; decide)] at e'
      split at e'
      · exact absurd e' (by decide)
      · try rw [if_pos d2] at e'
        unfold f_CarDesk_refusalOfStep at e'
        split at e'
        · split at e'
          · split at e'
            · assumption
            · exact absurd e' (by decide)
          · exact absurd e' (by decide)
        · split at e'
          · assumption
          · exact absurd e' (by decide)
theorem fl_0 {w : cx_W} {m : cm_W} (h : Sim w m) {x : Int32} (hx : vp_in x 24) : ((x_fl w x.toNatClampNeg = 0 ∧ x_mi m 5 x.toNatClampNeg ≤ 0) ∨ (¬ x_fl w x.toNatClampNeg = 0 ∧ ¬ x_mi m 5 x.toNatClampNeg ≤ 0)) ∧ ((-100) - x_fl w x.toNatClampNeg).toInt64 = (-100) - (x_mi m 5 x.toNatClampNeg).toInt64 := by
  obtain ⟨-, e5, f, hf, ef⟩ := h.2.2.1 _ (cd_vlt hx)
  rw [e5, ef]
  rcases (show f = 0 ∨ f = 1 ∨ f = 2 ∨ f = 3 ∨ f = 4 by omega) with rfl | rfl | rfl | rfl | rfl <;> decide
theorem sim_again {w : cx_W} {m : cm_W} (h : Sim w m) (x n : Int32) (y : Int64) : f_CarDesk_again w x n y = (f_Model_again m x n y).1 ∧ Sim w (f_Model_again m x n y).2 := by
  have e2 : (f_Model_again m x n y).2 = u_mc m 0 0 := by
    unfold f_Model_again
    repeat' split
    all_goals rfl
  refine ⟨?_, by rw [e2]; exact sim_code h⟩
  unfold f_CarDesk_again f_Model_again
  have e8 : x_mc m 8 = x_ctr w 7 := h.1 7 (by decide)
  rw [e8]
  by_cases c0 : x_ctr w 7 ≤ 128
  · rw [if_pos c0, if_pos c0]
    have ew := sim_why (sim_code h) x n y
    by_cases hw : f_Model_why (u_mc m 0 0) x n y = 0
    · obtain ⟨a, k, hx, ha, en, g2, hal, hk, ek, h1, h2, hr, hy, -⟩ := why_0 (sim_code h) hw
      rw [if_pos hw, cd_oc_s g2, if_pos hr]
      obtain ⟨f1, f2⟩ := fl_0 h hx
      rcases f1 with ⟨p1, p2⟩ | ⟨p1, p2⟩
      · rw [if_pos p1, if_pos p2, en]
        exact sim_out (sim_code h) hx ha hal y hy
      · rw [if_neg p1, if_neg p2]
        exact f2
    · rw [if_neg hw]
      cases ho : f_CarDesk_thingForCall w x n.toInt64 with
      | none =>
        rw [ho] at ew
        show (f_CarDesk_refusalOfCall w x none y).toInt64 = _
        rw [ew]
      | some a =>
        rw [ho] at ew
        show (if (f_CarDesk_refusalOfCall w x (some a) y) = 0 then _ else (f_CarDesk_refusalOfCall w x (some a) y).toInt64) = _
        rw [if_neg (fun z => hw (ew.trans z)), ew]
  · rw [if_neg c0, if_neg c0]
theorem sX_st {al : Nat → Prop} {st : Nat → Int64} {tu th : Nat → Int32} {src : Nat → Option Nat} {t6 : Nat → Int32} {s7 : Nat → Int64} {t8 o9 : Nat → Int32} (h : sX al st tu th src t6 s7 t8 o9) (a : Nat) (v : Int64) : sX al (va_up st a v) tu th src t6 (vp_updL s7 a v) t8 o9 := by
  refine ⟨fun j hj => ?_, h.2⟩
  obtain ⟨g1, g2, g3, g4⟩ := h.1 j hj
  refine ⟨g1, g2, ?_, g4⟩
  unfold va_up vp_updL
  split
  · rfl
  · exact g3
theorem sX_tu {al : Nat → Prop} {st : Nat → Int64} {tu th : Nat → Int32} {src : Nat → Option Nat} {t6 : Nat → Int32} {s7 : Nat → Int64} {t8 o9 : Nat → Int32} (h : sX al st tu th src t6 s7 t8 o9) (a : Nat) (v : Int32) (hv : ∃ t, t ≤ 50 ∧ v = nI t) : sX al st (va_up tu a v) th src t6 s7 (upd t8 a v) o9 := by
  refine ⟨fun j hj => ?_, h.2⟩
  obtain ⟨g1, g2, g3, g4, g5, g6⟩ := h.1 j hj
  refine ⟨g1, g2, g3, ?_, ?_, g6⟩
  · unfold va_up upd
    split
    · rfl
    · exact g4
  · unfold va_up
    split
    · exact hv
    · exact g5
theorem us_mc (m : cm_W) (i : Nat) (v x : Int32) : ∀ n, f_us_r (u_mc m i v) x n = f_us_r m x n
  | 0 => rfl
  | n + 1 => by
    unfold f_us_r
    rw [us_mc m i v x n]
theorem why_mc (m : cm_W) (i : Nat) (v x n : Int32) (y : Int64) : f_Model_why (u_mc m i v) x n y = f_Model_why m x n y := by
  have e : f_Model_isUsed (u_mc m i v) n = f_Model_isUsed m n := us_mc m i v n 384
  have e2 : ∀ (z : Int64) (c : Int32), f_Model_isThere (u_mc m i v) z c = f_Model_isThere m z c := fun _ _ => rfl
  unfold f_Model_why
  rw [e, e2, e2]
theorem sim_call2 {w : cx_W} {m : cm_W} (h : Sim w m) {x : Int32} {a : Nat} {y : Int64} (hw : f_Model_why m x (nI a) y = 0) (ha : a < 384) : f_CarDesk_outcomeOfCall w x a y = f_Model_answerOf m x (nI a) y ∧ Sim (f_CarDesk_changeByCall w x a y) (if (x / 6) = 1 then u_ml m 7 (nI a).toNatClampNeg y else if (x / 6) = 2 then u_mi (u_ml m 7 (nI a).toNatClampNeg (f_Model_stepped m x (nI a) y)) 8 (nI a).toNatClampNeg ((x_mi m 8 (nI a).toNatClampNeg) + 1) else m) := by
  obtain ⟨a', k, hx, ha', en, g2, hal, hk, ek, h1, h2, hr, hy, h50⟩ := why_0 h hw
  have ea : a = a' := (nI_eq (by omega) (by omega)).mp en
  subst ea
  refine ⟨sim_out h hx ha hal y hy, ?_⟩
  rw [nI_clamp (by omega)]
  unfold f_CarDesk_changeByCall
  by_cases c1 : x / 6 = 1
  · rw [if_pos c1, if_pos c1, if_neg (by rw [c1]; decide)]
    exact ⟨h.1, h.2.1, h.2.2.1, h.2.2.2.1, sX_st h.2.2.2.2.1 a y, h.2.2.2.2.2⟩
  rw [if_neg c1, if_neg c1]
  by_cases c2 : x / 6 = 2
  · rw [if_pos c2, if_pos c2, ← sim_step h hx ha hal hk ek h1 h2 y]
    obtain ⟨-, -, -, e8, ⟨t, ht, et⟩, -⟩ := h.2.2.2.2.1.1 a hal
    have ht5 : t < 50 := by
      have q := h50 c2
      rw [et] at q
      exact (nI_ltI (b := 50) (by omega) (by decide)).mp q
    rw [e8]
    exact ⟨h.1, h.2.1, h.2.2.1, h.2.2.2.1, sX_tu (sX_st h.2.2.2.2.1 a _) a _ ⟨t + 1, by omega, by rw [et]; exact nI_1 t⟩, h.2.2.2.2.2⟩
  · rw [if_neg c2, if_neg c2]
    exact h
theorem sim_call {w : cx_W} {m : cm_W} (h : Sim w m) (x n : Int32) (y : Int64) : (f_CarDesk_call w x n y).1 = (f_Model_call m x n y).1 ∧ Sim (f_CarDesk_call w x n y).2 (f_Model_call m x n y).2 := by
  unfold f_CarDesk_call f_Model_call
  have ew := sim_why (sim_code h) x n y
  by_cases hw : f_Model_why (u_mc m 0 0) x n y = 0
  · obtain ⟨a, k, hx, ha, en, g2, hal, hk, ek, h1, h2, hr, hy, h50⟩ := why_0 (sim_code h) hw
    rw [if_pos hw, cd_oc_s g2, if_pos hr]
    obtain ⟨f1, f2⟩ := fl_0 h hx
    have hA8 : sA (va_up (x_ctr w) 7 (x_ctr w 7 + 1)) (va_up (va_up (x_mc m) 0 0) 8 (x_mc m 8 + 1)) := sA_up (sA_0 h.1) 7 (by rw [h.1 7 (by decide)])
    rcases f1 with ⟨p1, p2⟩ | ⟨p1, p2⟩
    · rw [if_pos p1, if_pos p2]
      have hS : Sim (u_ctr (u_ctr w 7 ((x_ctr w 7) + 1)) 5 ((x_ctr w 5) + 1)) (u_mc (u_mc (u_mc m 0 0) 8 ((x_mc m 8) + 1)) 6 ((x_mc m 6) + 1)) := ⟨sA_up hA8 5 (by rw [h.1 5 (by decide)]), h.2⟩
      have hw' : f_Model_why (u_mc (u_mc (u_mc m 0 0) 8 ((x_mc m 8) + 1)) 6 ((x_mc m 6) + 1)) x n y = 0 := by rw [why_mc, why_mc]; exact hw
      subst en
      obtain ⟨g3, g4⟩ := sim_call2 hS hw' ha
      by_cases c1 : x / 6 = 1
      · rw [if_pos c1] at g4
        rw [if_pos c1]
        exact ⟨g3, g4⟩
      · rw [if_neg c1] at g4
        rw [if_neg c1]
        by_cases c2 : x / 6 = 2
        · rw [if_pos c2] at g4
          rw [if_pos c2]
          exact ⟨g3, g4⟩
        · rw [if_neg c2] at g4
          rw [if_neg c2]
          exact ⟨g3, g4⟩
    · rw [if_neg p1, if_neg p2]
      refine ⟨f2, ?_, h.2⟩
      have e5 := (h.2.2.1 _ (cd_vlt hx)).2.1
      exact sA_up (sA_up (sA_up (sA_up hA8 1 (by rw [h.1 1 (by decide)]; rfl)) 2 e5) 3 rfl) 4 rfl
  · rw [if_neg hw]
    cases ho : f_CarDesk_thingForCall w x n.toInt64 with
    | none =>
      rw [ho] at ew
      rw [ew]
      exact ⟨rfl, sim_refuse h (f_CarDesk_refusalOfCall w x none y)⟩
    | some a =>
      rw [ho] at ew
      show (if (f_CarDesk_refusalOfCall w x (some a) y) = 0 then _ else _ : Int64 × cx_W).1 = _ ∧ Sim (if (f_CarDesk_refusalOfCall w x (some a) y) = 0 then _ else _ : Int64 × cx_W).2 _
      rw [if_neg (fun z => hw (ew.trans z)), ew]
      exact ⟨rfl, sim_refuse h (f_CarDesk_refusalOfCall w x (some a) y)⟩
