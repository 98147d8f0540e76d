/-! make, kind by kind -/
theorem sT_e {cnt : Nat → Nat} {val : Nat → Nat → Int32} {c3 r0 r1 r2 : Nat → Int32} (h : sT cnt val c3 r0 r1 r2) (t : Nat) (ht : t < 3) : sT (va_up cnt t 0) val (upd c3 t 0) r0 r1 r2 := by
  refine ⟨fun s => ?_, ⟨?_, fun i hi => ?_⟩, ⟨?_, fun i hi => ?_⟩, ⟨?_, fun i hi => ?_⟩⟩
  · unfold va_up
    split
    · omega
    · exact h.1 s
  all_goals first
    | (rcases (show t = 0 ∨ t = 1 ∨ t = 2 by omega) with rfl | rfl | rfl <;> first | rfl | exact h.2.1.1 | exact h.2.2.1.1 | exact h.2.2.2.1)
    | (rcases (show t = 0 ∨ t = 1 ∨ t = 2 by omega) with rfl | rfl | rfl <;> first | exact absurd hi (Nat.not_lt_zero _) | exact h.2.1.2 i hi | exact h.2.2.1.2 i hi | exact h.2.2.2.2 i hi)
theorem eN {m : cm_W} {w : cx_W} (h : Sim w m) {k : Nat} (hk : k < 6) (hc : x_made w k < 20) : (64 * nI k + (nI (x_made w k) + 1)).toNatClampNeg = nj w k := by
  rw [show (64 : Int32) = nI 64 from rfl, pk_mul, nI_1, nI_add, nI_clamp (by omega)]
  unfold nj
  omega
theorem cnt_0 {c : Nat} (hc : c ≤ 200) : (c = 0 ∧ nI c ≤ 0 ∧ nI c = 0) ∨ (¬ nI c ≤ 0 ∧ ¬ nI c = 0) := by
  by_cases h : c = 0
  · subst h
    exact Or.inl ⟨rfl, by decide, rfl⟩
  · exact Or.inr ⟨nI_nle (by omega) (by omega), nI_ne0 (by omega) (by omega)⟩
theorem src_ge {o : Option Nat} (h : ∀ s, o = some s → s < 384) : (o = none ∧ ¬ 0 ≤ srcI o) ∨ ∃ s, o = some s ∧ 0 ≤ srcI o ∧ (srcI o).toNatClampNeg = s := by
  cases o with
  | none => exact Or.inl ⟨rfl, by decide⟩
  | some s =>
    have := h s rfl
    exact Or.inr ⟨s, rfl, nI_pos' (by omega), nI_clamp (by omega)⟩
theorem mk_sim {w : cx_W} {m : cm_W} (h : Sim w m) {k : Nat} (hk : k < 6) (hc : x_made w k < 20) (x : Int32) (hx : x = nI k) (q : Nat) (o : Option Nat) (ho : ∀ s, o = some s → x_al w s) (h3 : k = 3 → ∃ s, o = some s) (V : Int64) (ev : f_CarDesk_firstState (f_mk1 w k q) x o = V) (M : cm_W)
    (hA : sA (va_up (va_up (x_ctr w) 6 (x_ctr w 6 + 1)) 7 (x_ctr w 7 + 1)) (x_mc M)) (eT : sT (f_ecn (x_cnt w) (f_CarDesk_trayOfKind x)) (x_val w) (x_mi M 3) (x_mi M 0) (x_mi M 1) (x_mi M 2)) (e4 : x_ml M 4 = x_ml m 4) (e5 : x_mi M 5 = x_mi m 5) (e10 : x_mi M 10 = upd (x_mi m 10) k (nI (x_made w k) + 1)) (e6 : x_mi M 6 = upd (x_mi m 6) (nj w k) 1) (e7 : x_ml M 7 = vp_updL (x_ml m 7) (nj w k) V) (e8 : x_mi M 8 = upd (x_mi m 8) (nj w k) 0) (e9 : x_mi M 9 = upd (x_mi m 9) (nj w k) (srcI o)) :
    Sim (u_ctr (u_ctr (f_mkw w x q o) 6 ((x_ctr (f_mkw w x q o) 6) + 1)) 7 ((x_ctr (f_mkw w x q o) 7) + 1)) M := by
  have ek : x.toNatClampNeg = k := by rw [hx, nI_clamp (by omega)]
  obtain ⟨g1, g2, g3⟩ := sim_made h hk hc V o ho h3
  unfold f_mkw
  rw [ek, ev]
  unfold Sim
  rw [e4, e5, e10, e6, e7, e8, e9]
  refine ⟨hA, eT, h.2.2.1, g1, g2, g3⟩
theorem sim_makeR {w : cx_W} {m : cm_W} (h : Sim w m) {x : Int32} (hk : ¬ vp_in x 6) (q : Nat) : (f_CarDesk_make w x q).1 = (f_Model_makeR m x).1 ∧ Sim (f_CarDesk_make w x q).2 (f_Model_makeR m x).2 := by
  unfold f_CarDesk_make f_Model_makeR
  rw [if_pos (kind_out hk)]
  split
  · exact ⟨rfl, sim_refuse h _⟩
  · exact ⟨rfl, sim_refuse h _⟩
theorem sim_make0 {w : cx_W} {m : cm_W} (h : Sim w m) (q : Nat) : (f_CarDesk_make w 0 q).1 = (f_Model_make0 m).1 ∧ Sim (f_CarDesk_make w 0 q).2 (f_Model_make0 m).2 := by
  unfold f_CarDesk_make f_Model_make0
  rw [if_neg (show ¬ f_CarDesk_isKind 0 = 0 by decide), show ((0 : Int32)).toNatClampNeg = 0 by decide]
  have h10 := h.2.2.2.1.2.1 0 (by decide)
  have hcb : f_CarDesk_canBeMade w 0 = if nI (x_cnt w 0) ≤ 0 then 0 else 1 := rfl
  have hso : f_CarDesk_sourceOf w 0 = none := rfl
  rw [hcb, h.2.1.2.1.1]
  rcases cnt_0 (h.2.1.1 0) with ⟨b0, b1, b2⟩ | ⟨b1, b2⟩
  · rw [if_pos b1, if_pos rfl, if_pos b2]
    exact ⟨rfl, sim_refuse h _⟩
  rw [if_neg b1, if_neg (show ¬ (1 : Int32) = 0 by decide), if_neg b2]
  rcases made_20 h (k := 0) (by decide) with ⟨hc, a1, a2⟩ | ⟨a1, a2⟩
  · rw [if_pos a1, if_neg a2, hso]
    have hnew := nj_new h.Iv h.Ia hc
    have hN := eN h (k := 0) (by decide) hc
    have ev : f_CarDesk_firstState (f_mk1 w 0 q) 0 none = f_Model_stateOfLetters (u_mc m 0 0) (nI (x_cnt w 0)).toNatClampNeg := by
      rw [nI_clamp (by have := h.2.1.1 0; omega)]
      exact (hash_c _ (fun i hi => h.2.1.2.1.2 i hi)).symm
    refine ⟨?_, mk_sim h (k := 0) (by decide) hc 0 rfl q none (fun _ z => nomatch z) (fun z => absurd z (by decide)) _ ev _ (sA_up (sA_up (sA_0 h.1) 6 (show x_mc m 7 + 1 = x_ctr w 6 + 1 by rw [h.1 6 (by decide)])) 7 (show x_mc m 8 + 1 = x_ctr w 7 + 1 by rw [h.1 7 (by decide)])) (sT_e h.2.1 0 (by decide)) rfl rfl (by show upd (x_mi m 10) 0 (x_mi m 10 0 + 1) = _; rw [h10]) (by show upd (x_mi m 6) ((64 * 0) + (x_mi m 10 0 + 1)).toNatClampNeg 1 = _; rw [(show ((64 * 0) + (x_mi m 10 0 + 1)).toNatClampNeg = nj w 0 by rw [h10]; exact hN)]) (by show vp_updL (x_ml m 7) ((64 * 0) + (x_mi m 10 0 + 1)).toNatClampNeg _ = _; rw [(show ((64 * 0) + (x_mi m 10 0 + 1)).toNatClampNeg = nj w 0 by rw [h10]; exact hN)]) (by show upd (x_mi m 8) ((64 * 0) + (x_mi m 10 0 + 1)).toNatClampNeg 0 = _; rw [(show ((64 * 0) + (x_mi m 10 0 + 1)).toNatClampNeg = nj w 0 by rw [h10]; exact hN)]) (by show upd (x_mi m 9) ((64 * 0) + (x_mi m 10 0 + 1)).toNatClampNeg ((-1)) = _; rw [(show ((64 * 0) + (x_mi m 10 0 + 1)).toNatClampNeg = nj w 0 by rw [h10]; exact hN)]; rfl)⟩
    · show 64 * 0 + nI (va_up (x_made w) 0 (x_made w 0 + 1) 0) = 64 * 0 + (x_mi m 10 0 + 1)
      rw [va_up_self, h10, nI_succ]
  · rw [if_neg a1, if_pos a2]
    exact ⟨rfl, sim_refuse h _⟩
theorem sim_make1 {w : cx_W} {m : cm_W} (h : Sim w m) (q : Nat) : (f_CarDesk_make w 1 q).1 = (f_Model_make1 m).1 ∧ Sim (f_CarDesk_make w 1 q).2 (f_Model_make1 m).2 := by
  unfold f_CarDesk_make f_Model_make1
  rw [if_neg (show ¬ f_CarDesk_isKind 1 = 0 by decide), show ((1 : Int32)).toNatClampNeg = 1 by decide]
  have h10 := h.2.2.2.1.2.1 1 (by decide)
  have hcb : f_CarDesk_canBeMade w 1 = cd_oc (f_Shelf_newest w 0) 0 (fun _ => 1) := rfl
  have hla : f_Model_latest (u_mc m 0 0) 0 = srcI (f_Shelf_newest w 0) := latest_eq (sim_code h) (by decide)
  rw [hcb, hla]
  rcases src_ge (o := f_Shelf_newest w 0) (fun s hs => h.lt (al_Shelf_newest h.Iv hs)) with ⟨b0, b1⟩ | ⟨s, b0, b1, b2⟩
  · rw [cd_oc_n b0, if_pos rfl, if_neg b1]
    exact ⟨rfl, sim_refuse h _⟩
  rw [cd_oc_s b0, if_neg (show ¬ (1 : Int32) = 0 by decide), if_pos b1]
  have hsl : x_al w s := al_Shelf_newest h.Iv b0
  have hso : f_CarDesk_sourceOf w 1 = some s := b0
  rcases made_20 h (k := 1) (by decide) with ⟨hc, a1, a2⟩ | ⟨a1, a2⟩
  · rw [if_pos a1, if_neg a2, hso]
    have hnew := nj_new h.Iv h.Ia hc
    have hN := eN h (k := 1) (by decide) hc
    have ev : f_CarDesk_firstState (f_mk1 w 1 q) 1 (some s) = x_ml m 7 s := by
      rw [(h.2.2.2.2.1.1 s hsl).2.2.1]
      show va_up (x_st w) (nj w 1) 0 s = _
      rw [va_up_ne _ _ (fun z : s = nj w 1 => hnew (z ▸ hsl))]
    rw [b2]
    refine ⟨?_, mk_sim h (k := 1) (by decide) hc 1 rfl q (some s) (fun _ z => by cases z; exact hsl) (fun z => absurd z (by decide)) _ ev _ (sA_up (sA_up (sA_0 h.1) 6 (show x_mc m 7 + 1 = x_ctr w 6 + 1 by rw [h.1 6 (by decide)])) 7 (show x_mc m 8 + 1 = x_ctr w 7 + 1 by rw [h.1 7 (by decide)])) h.2.1 rfl rfl (by show upd (x_mi m 10) 1 (x_mi m 10 1 + 1) = _; rw [h10]) (by show upd (x_mi m 6) ((64 * 1) + (x_mi m 10 1 + 1)).toNatClampNeg 1 = _; rw [(show ((64 * 1) + (x_mi m 10 1 + 1)).toNatClampNeg = nj w 1 by rw [h10]; exact hN)]) (by show vp_updL (x_ml m 7) ((64 * 1) + (x_mi m 10 1 + 1)).toNatClampNeg _ = _; rw [(show ((64 * 1) + (x_mi m 10 1 + 1)).toNatClampNeg = nj w 1 by rw [h10]; exact hN)]) (by show upd (x_mi m 8) ((64 * 1) + (x_mi m 10 1 + 1)).toNatClampNeg 0 = _; rw [(show ((64 * 1) + (x_mi m 10 1 + 1)).toNatClampNeg = nj w 1 by rw [h10]; exact hN)]) (by show upd (x_mi m 9) ((64 * 1) + (x_mi m 10 1 + 1)).toNatClampNeg (srcI (f_Shelf_newest w 0)) = _; rw [(show ((64 * 1) + (x_mi m 10 1 + 1)).toNatClampNeg = nj w 1 by rw [h10]; exact hN), b0])⟩
    · show 64 * 1 + nI (va_up (x_made w) 1 (x_made w 1 + 1) 1) = 64 * 1 + (x_mi m 10 1 + 1)
      rw [va_up_self, h10, nI_succ]
  · rw [if_neg a1, if_pos a2]
    exact ⟨rfl, sim_refuse h _⟩
theorem sim_make2 {w : cx_W} {m : cm_W} (h : Sim w m) (q : Nat) : (f_CarDesk_make w 2 q).1 = (f_Model_make2 m).1 ∧ Sim (f_CarDesk_make w 2 q).2 (f_Model_make2 m).2 := by
  unfold f_CarDesk_make f_Model_make2
  rw [if_neg (show ¬ f_CarDesk_isKind 2 = 0 by decide), show ((2 : Int32)).toNatClampNeg = 2 by decide]
  have h10 := h.2.2.2.1.2.1 2 (by decide)
  have hcb : f_CarDesk_canBeMade w 2 = if nI (x_cnt w 1) ≤ 0 then 0 else 1 := rfl
  have hso : f_CarDesk_sourceOf w 2 = none := rfl
  rw [hcb, h.2.1.2.2.1.1]
  rcases cnt_0 (h.2.1.1 1) with ⟨b0, b1, b2⟩ | ⟨b1, b2⟩
  · rw [if_pos b1, if_pos rfl, if_pos b2]
    exact ⟨rfl, sim_refuse h _⟩
  rw [if_neg b1, if_neg (show ¬ (1 : Int32) = 0 by decide), if_neg b2]
  rcases made_20 h (k := 2) (by decide) with ⟨hc, a1, a2⟩ | ⟨a1, a2⟩
  · rw [if_pos a1, if_neg a2, hso]
    have hnew := nj_new h.Iv h.Ia hc
    have hN := eN h (k := 2) (by decide) hc
    have ev : f_CarDesk_firstState (f_mk1 w 2 q) 2 none = f_Model_stateOfBits (u_mc m 0 0) (nI (x_cnt w 1)).toNatClampNeg := by
      rw [nI_clamp (by have := h.2.1.1 1; omega)]
      exact bits_eq (h.2.1.1 1) h.2.1.2.2.1.2
    refine ⟨?_, mk_sim h (k := 2) (by decide) hc 2 rfl q none (fun _ z => nomatch z) (fun z => absurd z (by decide)) _ ev _ (sA_up (sA_up (sA_0 h.1) 6 (show x_mc m 7 + 1 = x_ctr w 6 + 1 by rw [h.1 6 (by decide)])) 7 (show x_mc m 8 + 1 = x_ctr w 7 + 1 by rw [h.1 7 (by decide)])) (sT_e h.2.1 1 (by decide)) rfl rfl (by show upd (x_mi m 10) 2 (x_mi m 10 2 + 1) = _; rw [h10]) (by show upd (x_mi m 6) ((64 * 2) + (x_mi m 10 2 + 1)).toNatClampNeg 1 = _; rw [(show ((64 * 2) + (x_mi m 10 2 + 1)).toNatClampNeg = nj w 2 by rw [h10]; exact hN)]) (by show vp_updL (x_ml m 7) ((64 * 2) + (x_mi m 10 2 + 1)).toNatClampNeg _ = _; rw [(show ((64 * 2) + (x_mi m 10 2 + 1)).toNatClampNeg = nj w 2 by rw [h10]; exact hN)]) (by show upd (x_mi m 8) ((64 * 2) + (x_mi m 10 2 + 1)).toNatClampNeg 0 = _; rw [(show ((64 * 2) + (x_mi m 10 2 + 1)).toNatClampNeg = nj w 2 by rw [h10]; exact hN)]) (by show upd (x_mi m 9) ((64 * 2) + (x_mi m 10 2 + 1)).toNatClampNeg ((-1)) = _; rw [(show ((64 * 2) + (x_mi m 10 2 + 1)).toNatClampNeg = nj w 2 by rw [h10]; exact hN)]; rfl)⟩
    · show 64 * 2 + nI (va_up (x_made w) 2 (x_made w 2 + 1) 2) = 64 * 2 + (x_mi m 10 2 + 1)
      rw [va_up_self, h10, nI_succ]
  · rw [if_neg a1, if_pos a2]
    exact ⟨rfl, sim_refuse h _⟩
theorem sim_make3 {w : cx_W} {m : cm_W} (h : Sim w m) (q : Nat) : (f_CarDesk_make w 3 q).1 = (f_Model_make3 m).1 ∧ Sim (f_CarDesk_make w 3 q).2 (f_Model_make3 m).2 := by
  unfold f_CarDesk_make f_Model_make3
  rw [if_neg (show ¬ f_CarDesk_isKind 3 = 0 by decide), show ((3 : Int32)).toNatClampNeg = 3 by decide]
  have h10 := h.2.2.2.1.2.1 3 (by decide)
  have hcb : f_CarDesk_canBeMade w 3 = cd_oc (f_Shelf_newest w 1) 0 (fun _ => 1) := rfl
  have hla : f_Model_latest (u_mc m 0 0) 1 = srcI (f_Shelf_newest w 1) := latest_eq (sim_code h) (by decide)
  rw [hcb, hla]
  rcases src_ge (o := f_Shelf_newest w 1) (fun s hs => h.lt (al_Shelf_newest h.Iv hs)) with ⟨b0, b1⟩ | ⟨s, b0, b1, b2⟩
  · rw [cd_oc_n b0, if_pos rfl, if_neg b1]
    exact ⟨rfl, sim_refuse h _⟩
  rw [cd_oc_s b0, if_neg (show ¬ (1 : Int32) = 0 by decide), if_pos b1]
  have hsl : x_al w s := al_Shelf_newest h.Iv b0
  have hso : f_CarDesk_sourceOf w 3 = some s := b0
  rcases made_20 h (k := 3) (by decide) with ⟨hc, a1, a2⟩ | ⟨a1, a2⟩
  · rw [if_pos a1, if_neg a2, hso]
    have hnew := nj_new h.Iv h.Ia hc
    have hN := eN h (k := 3) (by decide) hc
    have ev : f_CarDesk_firstState (f_mk1 w 3 q) 3 (some s) = 0 := rfl
    refine ⟨?_, mk_sim h (k := 3) (by decide) hc 3 rfl q (some s) (fun _ z => by cases z; exact hsl) (fun _ => ⟨s, rfl⟩) _ ev _ (sA_up (sA_up (sA_0 h.1) 6 (show x_mc m 7 + 1 = x_ctr w 6 + 1 by rw [h.1 6 (by decide)])) 7 (show x_mc m 8 + 1 = x_ctr w 7 + 1 by rw [h.1 7 (by decide)])) h.2.1 rfl rfl (by show upd (x_mi m 10) 3 (x_mi m 10 3 + 1) = _; rw [h10]) (by show upd (x_mi m 6) ((64 * 3) + (x_mi m 10 3 + 1)).toNatClampNeg 1 = _; rw [(show ((64 * 3) + (x_mi m 10 3 + 1)).toNatClampNeg = nj w 3 by rw [h10]; exact hN)]) (by show vp_updL (x_ml m 7) ((64 * 3) + (x_mi m 10 3 + 1)).toNatClampNeg _ = _; rw [(show ((64 * 3) + (x_mi m 10 3 + 1)).toNatClampNeg = nj w 3 by rw [h10]; exact hN)]) (by show upd (x_mi m 8) ((64 * 3) + (x_mi m 10 3 + 1)).toNatClampNeg 0 = _; rw [(show ((64 * 3) + (x_mi m 10 3 + 1)).toNatClampNeg = nj w 3 by rw [h10]; exact hN)]) (by show upd (x_mi m 9) ((64 * 3) + (x_mi m 10 3 + 1)).toNatClampNeg (srcI (f_Shelf_newest w 1)) = _; rw [(show ((64 * 3) + (x_mi m 10 3 + 1)).toNatClampNeg = nj w 3 by rw [h10]; exact hN), b0])⟩
    · show 64 * 3 + nI (va_up (x_made w) 3 (x_made w 3 + 1) 3) = 64 * 3 + (x_mi m 10 3 + 1)
      rw [va_up_self, h10, nI_succ]
  · rw [if_neg a1, if_pos a2]
    exact ⟨rfl, sim_refuse h _⟩
theorem sim_make4 {w : cx_W} {m : cm_W} (h : Sim w m) (q : Nat) : (f_CarDesk_make w 4 q).1 = (f_Model_make4 m).1 ∧ Sim (f_CarDesk_make w 4 q).2 (f_Model_make4 m).2 := by
  unfold f_CarDesk_make f_Model_make4
  rw [if_neg (show ¬ f_CarDesk_isKind 4 = 0 by decide), show ((4 : Int32)).toNatClampNeg = 4 by decide]
  have h10 := h.2.2.2.1.2.1 4 (by decide)
  have hcb : f_CarDesk_canBeMade w 4 = if nI (x_cnt w 2) ≤ 0 then 0 else 1 := rfl
  have hso : f_CarDesk_sourceOf w 4 = none := rfl
  rw [hcb, h.2.1.2.2.2.1]
  rcases cnt_0 (h.2.1.1 2) with ⟨b0, b1, b2⟩ | ⟨b1, b2⟩
  · rw [if_pos b1, if_pos rfl, if_pos b2]
    exact ⟨rfl, sim_refuse h _⟩
  rw [if_neg b1, if_neg (show ¬ (1 : Int32) = 0 by decide), if_neg b2]
  rcases made_20 h (k := 4) (by decide) with ⟨hc, a1, a2⟩ | ⟨a1, a2⟩
  · rw [if_pos a1, if_neg a2, hso]
    have hnew := nj_new h.Iv h.Ia hc
    have hN := eN h (k := 4) (by decide) hc
    have ev : f_CarDesk_firstState (f_mk1 w 4 q) 4 none = f_Model_stateOfBytes (u_mc m 0 0) (nI (x_cnt w 2)).toNatClampNeg := by
      rw [nI_clamp (by have := h.2.1.1 2; omega)]
      exact ck_eq h.2.1.2.2.2.2
    refine ⟨?_, mk_sim h (k := 4) (by decide) hc 4 rfl q none (fun _ z => nomatch z) (fun z => absurd z (by decide)) _ ev _ (sA_up (sA_up (sA_0 h.1) 6 (show x_mc m 7 + 1 = x_ctr w 6 + 1 by rw [h.1 6 (by decide)])) 7 (show x_mc m 8 + 1 = x_ctr w 7 + 1 by rw [h.1 7 (by decide)])) (sT_e h.2.1 2 (by decide)) rfl rfl (by show upd (x_mi m 10) 4 (x_mi m 10 4 + 1) = _; rw [h10]) (by show upd (x_mi m 6) ((64 * 4) + (x_mi m 10 4 + 1)).toNatClampNeg 1 = _; rw [(show ((64 * 4) + (x_mi m 10 4 + 1)).toNatClampNeg = nj w 4 by rw [h10]; exact hN)]) (by show vp_updL (x_ml m 7) ((64 * 4) + (x_mi m 10 4 + 1)).toNatClampNeg _ = _; rw [(show ((64 * 4) + (x_mi m 10 4 + 1)).toNatClampNeg = nj w 4 by rw [h10]; exact hN)]) (by show upd (x_mi m 8) ((64 * 4) + (x_mi m 10 4 + 1)).toNatClampNeg 0 = _; rw [(show ((64 * 4) + (x_mi m 10 4 + 1)).toNatClampNeg = nj w 4 by rw [h10]; exact hN)]) (by show upd (x_mi m 9) ((64 * 4) + (x_mi m 10 4 + 1)).toNatClampNeg ((-1)) = _; rw [(show ((64 * 4) + (x_mi m 10 4 + 1)).toNatClampNeg = nj w 4 by rw [h10]; exact hN)]; rfl)⟩
    · show 64 * 4 + nI (va_up (x_made w) 4 (x_made w 4 + 1) 4) = 64 * 4 + (x_mi m 10 4 + 1)
      rw [va_up_self, h10, nI_succ]
  · rw [if_neg a1, if_pos a2]
    exact ⟨rfl, sim_refuse h _⟩
theorem sim_make5 {w : cx_W} {m : cm_W} (h : Sim w m) (q : Nat) : (f_CarDesk_make w 5 q).1 = (f_Model_make5 m).1 ∧ Sim (f_CarDesk_make w 5 q).2 (f_Model_make5 m).2 := by
  unfold f_CarDesk_make f_Model_make5
  rw [if_neg (show ¬ f_CarDesk_isKind 5 = 0 by decide), show ((5 : Int32)).toNatClampNeg = 5 by decide]
  have h10 := h.2.2.2.1.2.1 5 (by decide)
  have hcb : f_CarDesk_canBeMade w 5 = cd_oc (f_Shelf_newest w 1) 0 (fun _ => 1) := rfl
  have hla : f_Model_latest (u_mc m 0 0) 1 = srcI (f_Shelf_newest w 1) := latest_eq (sim_code h) (by decide)
  rw [hcb, hla]
  rcases src_ge (o := f_Shelf_newest w 1) (fun s hs => h.lt (al_Shelf_newest h.Iv hs)) with ⟨b0, b1⟩ | ⟨s, b0, b1, b2⟩
  · rw [cd_oc_n b0, if_pos rfl, if_neg b1]
    exact ⟨rfl, sim_refuse h _⟩
  rw [cd_oc_s b0, if_neg (show ¬ (1 : Int32) = 0 by decide), if_pos b1]
  have hsl : x_al w s := al_Shelf_newest h.Iv b0
  have hso : f_CarDesk_sourceOf w 5 = none := rfl
  rcases made_20 h (k := 5) (by decide) with ⟨hc, a1, a2⟩ | ⟨a1, a2⟩
  · rw [if_pos a1, if_neg a2, hso]
    have hnew := nj_new h.Iv h.Ia hc
    have hN := eN h (k := 5) (by decide) hc
    have ev : f_CarDesk_firstState (f_mk1 w 5 q) 5 none = ((f_Model_numbers (u_mc m 0 0) 1).1).toInt64 := by
      show (f_ct_r (f_mk1 w 5 q) 1 20).toInt64 = (f_nu_r (u_mc m 0 0) 1 20).toInt64
      rw [mk1_ct h.Iv hnew, ct_eq (sim_code h) (by decide) 20 (Nat.le_refl _)]
    refine ⟨?_, mk_sim h (k := 5) (by decide) hc 5 rfl q none (fun _ z => nomatch z) (fun z => absurd z (by decide)) _ ev _ (sA_up (sA_up (sA_0 (sA_0 h.1)) 6 (show x_mc m 7 + 1 = x_ctr w 6 + 1 by rw [h.1 6 (by decide)])) 7 (show x_mc m 8 + 1 = x_ctr w 7 + 1 by rw [h.1 7 (by decide)])) h.2.1 rfl rfl (by show upd (x_mi m 10) 5 (x_mi m 10 5 + 1) = _; rw [h10]) (by show upd (x_mi m 6) ((64 * 5) + (x_mi m 10 5 + 1)).toNatClampNeg 1 = _; rw [(show ((64 * 5) + (x_mi m 10 5 + 1)).toNatClampNeg = nj w 5 by rw [h10]; exact hN)]) (by show vp_updL (x_ml m 7) ((64 * 5) + (x_mi m 10 5 + 1)).toNatClampNeg _ = _; rw [(show ((64 * 5) + (x_mi m 10 5 + 1)).toNatClampNeg = nj w 5 by rw [h10]; exact hN)]) (by show upd (x_mi m 8) ((64 * 5) + (x_mi m 10 5 + 1)).toNatClampNeg 0 = _; rw [(show ((64 * 5) + (x_mi m 10 5 + 1)).toNatClampNeg = nj w 5 by rw [h10]; exact hN)]) (by show upd (x_mi m 9) ((64 * 5) + (x_mi m 10 5 + 1)).toNatClampNeg ((-1)) = _; rw [(show ((64 * 5) + (x_mi m 10 5 + 1)).toNatClampNeg = nj w 5 by rw [h10]; exact hN)]; rfl)⟩
    · show 64 * 5 + nI (va_up (x_made w) 5 (x_made w 5 + 1) 5) = 64 * 5 + (x_mi m 10 5 + 1)
      rw [va_up_self, h10, nI_succ]
  · rw [if_neg a1, if_pos a2]
    exact ⟨rfl, sim_refuse h _⟩
