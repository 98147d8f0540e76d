/-! THE CLASS AND THE REFERENCE HOLD THE SAME: pure rows, no machine in them -/
def srcI (o : Option Nat) : Int32 := cd_oc o (-1) (fun q => nI q)
/-- how many things there are of x -/
def cu (th fo : Nat → Int32) (x : Int32) : Nat → Nat
  | 0 => 0
  | n + 1 => cu th fo x n + (if th n = 0 then 0 else if fo n = x then 1 else 0)
def sA (c mc : Nat → Int32) : Prop := ∀ i, i < 8 → mc (i + 1) = c i
def sT (cnt : Nat → Nat) (val : Nat → Nat → Int32) (c3 r0 r1 r2 : Nat → Int32) : Prop := (∀ t, cnt t ≤ 200) ∧ (c3 0 = nI (cnt 0) ∧ ∀ i, i < cnt 0 → r0 i = val 0 i) ∧ (c3 1 = nI (cnt 1) ∧ ∀ i, i < cnt 1 → r1 i = val 1 i ∧ (val 1 i = 0 ∨ val 1 i = 1)) ∧ (c3 2 = nI (cnt 2) ∧ ∀ i, i < cnt 2 → r2 i = val 2 i ∧ ∃ b, b ≤ 255 ∧ val 2 i = nI b)
def sC (ans : Nat → Int64) (fl : Nat → Int32) (a4 : Nat → Int64) (f5 : Nat → Int32) : Prop := ∀ i, i < 24 → a4 i = ans i ∧ f5 i = fl i ∧ ∃ f, f ≤ 4 ∧ fl i = nI f
def sM (made : Nat → Nat) (arr : Nat → Nat → Option Nat) (al : Nat → Prop) (m10 : Nat → Int32) : Prop := (∀ k, made k ≤ 20) ∧ (∀ k, k < 6 → m10 k = nI (made k)) ∧ (∀ k i, k < 6 → i < 20 → arr k i = if i < made k then some (64 * k + i + 1) else none) ∧ (∀ j, al j ↔ ∃ k i, k < 6 ∧ i < made k ∧ j = 64 * k + i + 1) ∧ ∀ k i j, arr k i = some j → al j
def sX (al : Nat → Prop) (st : Nat → Int64) (tu th : Nat → Int32) (src : Nat → Option Nat) (t6 : Nat → Int32) (s7 : Nat → Int64) (t8 o9 : Nat → Int32) : Prop := (∀ j, al j → t6 j = th j ∧ (th j = 0 ∨ th j = 1) ∧ s7 j = st j ∧ t8 j = tu j ∧ (∃ t, t ≤ 50 ∧ tu j = nI t) ∧ o9 j = srcI (src j)) ∧ (∀ j, j < 384 → ¬ al j → t6 j = 0) ∧ (∀ j q, al j → src j = some q → al q) ∧ ∀ j, al j → 192 ≤ j → j < 256 → ∃ q, src j = some q
def sU (al : Nat → Prop) (us : Nat → Int32) (t6 o9 : Nat → Int32) : Prop := ∀ q, al q → us q = nI (cu t6 o9 (nI q) 384)
def Sim (w : cx_W) (m : cm_W) : Prop := sA (x_ctr w) (x_mc m) ∧ sT (x_cnt w) (x_val w) (x_mi m 3) (x_mi m 0) (x_mi m 1) (x_mi m 2) ∧ sC (x_ans w) (x_fl w) (x_ml m 4) (x_mi m 5) ∧ sM (x_made w) (x_arr w) (x_al w) (x_mi m 10) ∧ sX (x_al w) (x_st w) (x_tu w) (x_th w) (x_src w) (x_mi m 6) (x_ml m 7) (x_mi m 8) (x_mi m 9) ∧ sU (x_al w) (x_us w) (x_mi m 6) (x_mi m 9)
theorem sA_0 {c mc : Nat → Int32} {v : Int32} (h : sA c mc) : sA c (va_up mc 0 v) := fun i hi => by
  rw [va_up_ne mc v (show i + 1 ≠ 0 by omega)]
  exact h i hi
theorem sA_up {c mc : Nat → Int32} {v v' : Int32} (h : sA c mc) (k : Nat) (e : v' = v) : sA (va_up c k v) (va_up mc (k + 1) v') := fun i hi => by
  by_cases hk : i = k
  · subst hk
    rw [va_up_self, va_up_self, e]
  · rw [va_up_ne c v hk, va_up_ne mc v' (show i + 1 ≠ k + 1 by omega)]
    exact h i hi
theorem Sim.Iv {w : cx_W} {m : cm_W} (h : Sim w m) : cx_Iv w := ⟨h.2.1.1, h.2.2.2.1.1, h.2.2.2.1.2.2.2.2, h.2.2.2.2.1.2.2.1⟩
theorem Sim.Ia {w : cx_W} {m : cm_W} (h : Sim w m) : cx_Ia w := fun j hj => by
  obtain ⟨k, i, -, h1, h2⟩ := (h.2.2.2.1.2.2.2.1 j).mp hj
  exact ⟨k, i, h1, h2⟩
theorem Sim.lt {w : cx_W} {m : cm_W} (h : Sim w m) {j : Nat} (hj : x_al w j) : j < 384 := by
  obtain ⟨k, i, h1, h2, h3⟩ := (h.2.2.2.1.2.2.2.1 j).mp hj
  have := h.2.2.2.1.1 k
  omega
theorem Sim.co {w : cx_W} {m : cm_W} (h : Sim w m) : ∀ t, t < 3 → ∃ c, c ≤ 200 ∧ x_mi m 3 t = nI c := fun t ht => by
  have hT := h.2.1
  rcases (show t = 0 ∨ t = 1 ∨ t = 2 by omega) with rfl | rfl | rfl
  · exact ⟨_, hT.1 0, hT.2.1.1⟩
  · exact ⟨_, hT.1 1, hT.2.2.1.1⟩
  · exact ⟨_, hT.1 2, hT.2.2.2.1⟩
theorem Sim.ma {w : cx_W} {m : cm_W} (h : Sim w m) : ∀ k, k < 6 → ∃ c, c ≤ 20 ∧ x_mi m 10 k = nI c := fun k hk => ⟨_, h.2.2.2.1.1 k, h.2.2.2.1.2.1 k hk⟩
theorem sim_code {w : cx_W} {m : cm_W} (h : Sim w m) : Sim w (u_mc m 0 0) := ⟨sA_0 h.1, h.2⟩
theorem sim_refuse {w : cx_W} {m : cm_W} (h : Sim w m) (r : Int32) : Sim (f_CarDesk_refuse w r).2 (f_Model_refuse (u_mc m 0 0) r).2 := ⟨sA_up (sA_0 h.1) 0 (by show va_up (x_mc m) 0 0 1 + 1 = x_ctr w 0 + 1; rw [va_up_ne _ _ (by decide), h.1 0 (by decide)]), h.2⟩
theorem sim_told {w : cx_W} {m : cm_W} (h : Sim w m) (x : Int32) : f_CarDesk_told w x = (f_Model_told m x).1 ∧ Sim w (f_Model_told m x).2 := by
  have e : (f_Model_told m x).2 = u_mc m 0 0 := by
    unfold f_Model_told
    repeat' split
    all_goals rfl
  refine ⟨?_, by rw [e]; exact sim_code h⟩
  obtain ⟨hA, hT, -⟩ := h
  unfold f_CarDesk_told f_Model_told
  by_cases h0 : x = 0
  · rw [if_pos h0, if_pos h0]; exact (hA 0 (by decide)).symm
  rw [if_neg h0, if_neg h0]
  by_cases h0 : x = 1
  · rw [if_pos h0, if_pos h0]; exact (hA 1 (by decide)).symm
  rw [if_neg h0, if_neg h0]
  by_cases h0 : x = 2
  · rw [if_pos h0, if_pos h0]; exact (hA 2 (by decide)).symm
  rw [if_neg h0, if_neg h0]
  by_cases h0 : x = 3
  · rw [if_pos h0, if_pos h0]; exact (hA 3 (by decide)).symm
  rw [if_neg h0, if_neg h0]
  by_cases h0 : x = 4
  · rw [if_pos h0, if_pos h0]; exact (hA 4 (by decide)).symm
  rw [if_neg h0, if_neg h0]
  by_cases h0 : x = 5
  · rw [if_pos h0, if_pos h0]; exact (hA 5 (by decide)).symm
  rw [if_neg h0, if_neg h0]
  by_cases h0 : x = 6
  · rw [if_pos h0, if_pos h0]; exact (hA 6 (by decide)).symm
  rw [if_neg h0, if_neg h0]
  by_cases h0 : x = 7
  · rw [if_pos h0, if_pos h0]; exact (hA 7 (by decide)).symm
  rw [if_neg h0, if_neg h0]
  by_cases h0 : x = 8
  · rw [if_pos h0, if_pos h0]; exact hT.2.1.1.symm
  rw [if_neg h0, if_neg h0]
  by_cases h0 : x = 9
  · rw [if_pos h0, if_pos h0]; exact hT.2.2.1.1.symm
  rw [if_neg h0, if_neg h0]
  by_cases h0 : x = 10
  · rw [if_pos h0, if_pos h0]; exact hT.2.2.2.1.symm
  rw [if_neg h0, if_neg h0]
theorem call_in {x : Int32} (h : vp_in x 24) : ¬ f_CarDesk_isCall x = 0 ∧ ¬ x < 0 ∧ x ≤ 23 ∧ ¬ 23 < x := by
  obtain ⟨j, hj, rfl⟩ := vp_in_of h (by decide)
  have h0 : ¬ nI j < 0 := nI_pos (by omega)
  have h1 : ¬ (24 : Int32) ≤ nI j := nI_ge (b := 24) hj (by decide)
  refine ⟨?_, h0, nI_le (b := 23) (by omega) (by decide), nI_nlt (a := 23) (by omega) (by decide)⟩
  unfold f_CarDesk_isCall
  rw [if_neg h0, if_neg h1]
  decide
theorem call_out {x : Int32} (h : ¬ vp_in x 24) : f_CarDesk_isCall x = 0 ∧ (x < 0 ∨ (¬ x < 0 ∧ ¬ x ≤ 23 ∧ 23 < x)) := by
  refine ⟨Classical.byContradiction fun q => h (cd_call q), ?_⟩
  by_cases h0 : x < 0
  · exact Or.inl h0
  · refine Or.inr ⟨h0, fun q => h (cm_in23' h0 q), Classical.byContradiction fun q => h (cm_in23 h0 q)⟩
theorem arg_far (y : Int64) : (f_CarDesk_isArgument y = 0 ∧ ¬ f_Model_isFar y = 0) ∨ (¬ f_CarDesk_isArgument y = 0 ∧ f_Model_isFar y = 0) := by
  unfold f_CarDesk_isArgument f_Model_isFar
  by_cases h0 : y < -1000000000
  · rw [if_pos h0, if_pos h0]
    exact Or.inl ⟨rfl, by decide⟩
  · rw [if_neg h0, if_neg h0]
    by_cases h1 : y ≤ 1000000000
    · rw [if_pos h1, if_neg (Int64.not_lt.mpr h1)]
      exact Or.inr ⟨by decide, rfl⟩
    · rw [if_neg h1, if_pos (Int64.not_le.mp h1)]
      exact Or.inl ⟨rfl, by decide⟩
theorem sim_answer {w : cx_W} {m : cm_W} (h : Sim w m) (x : Int32) (y : Int64) : (f_CarDesk_answer w x y).1 = (f_Model_answer m x y).1 ∧ Sim (f_CarDesk_answer w x y).2 (f_Model_answer m x y).2 := by
  unfold f_CarDesk_answer f_Model_answer
  by_cases hin : vp_in x 24
  · obtain ⟨c1, c2, c3, -⟩ := call_in hin
    rw [if_neg c1, if_neg c2, if_pos c3]
    rcases arg_far y with ⟨a1, a2⟩ | ⟨a1, a2⟩
    · rw [if_pos a1, if_neg a2]
      exact ⟨rfl, sim_refuse h _⟩
    · rw [if_neg a1, if_pos a2]
      refine ⟨rfl, sA_up (sA_0 h.1) 7 (by show x_mc m 8 + 1 = x_ctr w 7 + 1; rw [h.1 7 (by decide)]), h.2.1, fun i hi => ?_, h.2.2.2⟩
      obtain ⟨g1, g2, g3⟩ := h.2.2.1 i hi
      refine ⟨?_, g2, g3⟩
      show vp_updL (x_ml m 4) x.toNatClampNeg y i = vp_updL (x_ans w) x.toNatClampNeg y i
      unfold vp_updL
      split
      · rfl
      · exact g1
  · obtain ⟨c1, c2⟩ := call_out hin
    rw [if_pos c1]
    rcases c2 with c2 | ⟨c2, c3, -⟩
    · rw [if_pos c2]
      exact ⟨rfl, sim_refuse h _⟩
    · rw [if_neg c2, if_neg c3]
      exact ⟨rfl, sim_refuse h _⟩
theorem sim_fails {w : cx_W} {m : cm_W} (h : Sim w m) (x y : Int32) : (f_CarDesk_fails w x y).1 = (f_Model_fails m x y).1 ∧ Sim (f_CarDesk_fails w x y).2 (f_Model_fails m x y).2 := by
  unfold f_CarDesk_fails f_Model_fails
  by_cases hin : vp_in x 24
  · obtain ⟨c1, c2, c3, -⟩ := call_in hin
    rw [if_neg c1, if_neg c2, if_pos c3]
    by_cases a1 : y < 0
    · rw [if_pos a1, if_pos a1]
      exact ⟨rfl, sim_refuse h _⟩
    · rw [if_neg a1, if_neg a1]
      by_cases a2 : y ≤ 4
      · rw [if_pos a2, if_pos a2]
        refine ⟨(h.2.2.1 _ (cd_vlt hin)).2.1.symm, sA_up (sA_0 h.1) 7 (by show x_mc m 8 + 1 = x_ctr w 7 + 1; rw [h.1 7 (by decide)]), h.2.1, fun i hi => ?_, h.2.2.2⟩
        obtain ⟨g1, g2, g3⟩ := h.2.2.1 i hi
        refine ⟨g1, ?_, ?_⟩
        · show upd (x_mi m 5) x.toNatClampNeg y i = upd (x_fl w) x.toNatClampNeg y i
          unfold upd
          split
          · rfl
          · exact g2
        · show ∃ f, f ≤ 4 ∧ upd (x_fl w) x.toNatClampNeg y i = nI f
          unfold upd
          split
          · exact nI_of2 (M := 4) (n := 4) (by decide) a1 a2
          · exact g3
      · rw [if_neg a2, if_neg a2]
        exact ⟨rfl, sim_refuse h _⟩
  · obtain ⟨c1, c2⟩ := call_out hin
    rw [if_pos c1]
    rcases c2 with c2 | ⟨c2, c3, -⟩
    · rw [if_pos c2]
      exact ⟨rfl, sim_refuse h _⟩
    · rw [if_neg c2, if_neg c3]
      exact ⟨rfl, sim_refuse h _⟩
