/-! drop, collect -/
theorem m1_ne {q : Nat} (h : q < 2 ^ 31) : ¬ (-1 : Int32) = nI q := fun e => by
  have h1 := congrArg Int32.toInt e
  rw [nI_toInt h] at h1
  have h2 : (-1 : Int32).toInt = -1 := by decide
  omega
theorem neg64 {x : Int32} (h : x < 0) : x.toInt64 < 0 := by
  rw [Int32.lt_iff_toInt_lt] at h
  rw [Int64.lt_iff_toInt_lt, Int32.toInt_toInt64]
  exact h
theorem big64 {x : Int32} (h : 384 ≤ x) : ¬ x.toInt64 < 384 := by
  rw [Int32.le_iff_toInt_le] at h
  rw [Int64.lt_iff_toInt_lt, Int32.toInt_toInt64]
  have h1 : (384 : Int32).toInt = 384 := by decide
  have h2 : (384 : Int64).toInt = 384 := by decide
  omega
theorem cu_off (th fo : Nat → Int32) (x : Int32) (a : Nat) : ∀ n, cu (upd th a 0) fo x n + (if a < n ∧ ¬ th a = 0 ∧ fo a = x then 1 else 0) = cu th fo x n
  | 0 => by rw [if_neg (fun q => absurd q.1 (by omega))]; rfl
  | n + 1 => by
    have ih := cu_off th fo x a n
    unfold cu
    by_cases ha : n = a
    · subst ha
      have e : upd th n 0 n = 0 := by simp [upd]
      rw [e, if_pos rfl]
      rw [if_neg (fun q => absurd q.1 (by omega))] at ih
      by_cases h1 : th n = 0
      · rw [if_pos h1, if_neg (fun q => q.2.1 h1)]; omega
      · rw [if_neg h1]
        by_cases h2 : fo n = x
        · rw [if_pos h2, if_pos ⟨by omega, h1, h2⟩]; omega
        · rw [if_neg h2, if_neg (fun q => h2 q.2.2)]; omega
    · have e : upd th a 0 n = th n := by simp [upd, ha]
      rw [e]
      by_cases h3 : a < n ∧ ¬ th a = 0 ∧ fo a = x
      · rw [if_pos h3] at ih
        rw [if_pos (show a < n + 1 ∧ ¬ th a = 0 ∧ fo a = x from ⟨by omega, h3.2⟩)]
        omega
      · rw [if_neg h3] at ih
        rw [if_neg (show ¬ (a < n + 1 ∧ ¬ th a = 0 ∧ fo a = x) from fun q => h3 ⟨by have := q.1; omega, q.2⟩)]
        omega
theorem cu_on (th fo : Nat → Int32) (x v : Int32) (a : Nat) (h0 : th a = 0) : ∀ n, cu (upd th a 1) (upd fo a v) x n = cu th fo x n + (if a < n ∧ v = x then 1 else 0)
  | 0 => by rw [if_neg (fun q => absurd q.1 (by omega))]; rfl
  | n + 1 => by
    have ih := cu_on th fo x v a h0 n
    unfold cu
    by_cases ha : n = a
    · subst ha
      have e : upd th n 1 n = 1 := by simp [upd]
      have e2 : upd fo n v n = v := by simp [upd]
      rw [e, e2, if_neg (by decide), h0, if_pos rfl]
      rw [if_neg (fun q => absurd q.1 (by omega))] at ih
      by_cases h2 : v = x
      · rw [if_pos h2, if_pos ⟨by omega, h2⟩]; omega
      · rw [if_neg h2, if_neg (fun q => h2 q.2)]; omega
    · have e : upd th a 1 n = th n := by simp [upd, ha]
      have e2 : upd fo a v n = fo n := by simp [upd, ha]
      rw [e, e2]
      by_cases h3 : a < n ∧ v = x
      · rw [if_pos h3] at ih
        rw [if_pos (show a < n + 1 ∧ v = x from ⟨by omega, h3.2⟩)]
        omega
      · rw [if_neg h3] at ih
        rw [if_neg (show ¬ (a < n + 1 ∧ v = x) from fun q => h3 ⟨by have := q.1; omega, q.2⟩)]
        omega
theorem sim_leave {w : cx_W} {m : cm_W} (h : Sim w m) {a : Nat} (hal : x_al w a) (q0 : ¬ x_mi m 6 a = 0) : sX (x_al w) (x_st w) (x_tu w) (va_up (x_th w) a 0) (x_src w) (upd (x_mi m 6) a 0) (x_ml m 7) (x_mi m 8) (x_mi m 9) ∧ sU (x_al w) (f_lus (x_us w) (x_src w a)) (upd (x_mi m 6) a 0) (x_mi m 9) := by
  obtain ⟨-, -, -, hM, hX, hU⟩ := id h
  refine ⟨⟨fun j hj => ?_, fun j hj hn => ?_, hX.2.2.1, hX.2.2.2⟩, fun q hq => ?_⟩
  · obtain ⟨g1, g2, g3⟩ := hX.1 j hj
    by_cases e : j = a
    · subst e
      refine ⟨?_, Or.inl ?_, g3⟩
      · simp [upd, va_up]
      · simp [va_up]
    · refine ⟨?_, ?_, g3⟩
      · simp [upd, va_up, e, g1]
      · simpa [va_up, e] using g2
  · by_cases e : j = a
    · subst e
      simp [upd]
    · simp [upd, e, hX.2.1 j hj hn]
  · have key := cu_off (x_mi m 6) (x_mi m 9) (nI q) a 384
    have ho := (hX.1 a hal).2.2.2.2.2
    have hq4 := h.lt hq
    have ha4 := h.lt hal
    cases hs : x_src w a with
    | none =>
      rw [hs] at ho
      have ho' : x_mi m 9 a = -1 := ho
      rw [if_neg (fun z => m1_ne (show q < 2 ^ 31 by omega) (ho'.symm.trans z.2.2))] at key
      show x_us w q = _
      rw [hU q hq, ← key, Nat.add_zero]
    | some s =>
      rw [hs] at ho
      have ho' : x_mi m 9 a = nI s := ho
      have hs4 := h.lt (hX.2.2.1 a s hal hs)
      show va_up (x_us w) s (x_us w s - 1) q = _
      by_cases e : q = s
      · subst e
        rw [if_pos ⟨ha4, q0, ho'⟩] at key
        rw [va_up_self, hU q hq, ← key]
        exact nI_pred _
      · rw [va_up_ne _ _ e, hU q hq]
        rw [if_neg (fun z => e ((nI_eq (by omega) (by omega)).mp (z.2.2.symm.trans ho')))] at key
        rw [← key, Nat.add_zero]
theorem sim_drop {w : cx_W} {m : cm_W} (h : Sim w m) (x : Int32) : (f_CarDesk_drop w x).1 = (f_Model_drop m x).1 ∧ Sim (f_CarDesk_drop w x).2 (f_Model_drop m x).2 := by
  unfold f_CarDesk_drop f_Model_drop
  by_cases h0 : x < 0
  · rw [cd_oc_n (thing_out (Or.inl (neg64 h0))), if_pos h0]
    exact ⟨rfl, sim_refuse h (-3)⟩
  rw [if_neg h0]
  by_cases h1 : 384 ≤ x
  · rw [cd_oc_n (thing_out (Or.inr (big64 h1))), if_pos h1]
    exact ⟨rfl, sim_refuse h (-3)⟩
  rw [if_neg h1]
  obtain ⟨a, ha, rfl⟩ := vp_in_of (cd_in (n := 384) 384 (by decide) h0 h1) (by decide)
  have et := thing_eq h ha
  rw [nI_l (by omega), nI_clamp (by omega)]
  by_cases q0 : x_mi m 6 a = 0
  · rw [if_pos q0] at et ⊢
    rw [cd_oc_n et]
    exact ⟨rfl, sim_refuse h (-3)⟩
  rw [if_neg q0] at et ⊢
  rw [cd_oc_s et]
  have hal := al_t6 h ha q0
  have hu := used_eq (sim_code h) hal
  by_cases hz : f_Thing_isInUse w a = 0
  · rw [if_pos hz, if_pos (hu.mp hz)]
    obtain ⟨g1, g2⟩ := sim_leave h hal q0
    exact ⟨rfl, sA_up (sA_0 h.1) 7 (by show x_mc m 8 + 1 = x_ctr w 7 + 1; rw [h.1 7 (by decide)]), h.2.1, h.2.2.1, h.2.2.2.1, g1, g2⟩
  · rw [if_neg hz, if_neg (fun z => hz (hu.mpr z))]
    exact ⟨rfl, sim_refuse h (-3)⟩
theorem full_n {c : Nat} (h : c < 200) : nI c < 200 ∧ ¬ nI c = 200 := ⟨nI_lt (b := 200) h (by decide), fun q => absurd ((nI_eq (by omega) (by decide)).mp (show nI c = nI 200 from q)) (by omega)⟩
theorem lN_rng {y : Int64} {n : Nat} (h0 : ¬ y < 0) (h1 : y ≤ lN n) (hn : n < 2 ^ 31) : ∃ b, b ≤ n ∧ y.toInt32 = nI b := by
  obtain ⟨k, hk, rfl⟩ := pk_lOf h0
  exact ⟨k, (pk_lLE hk (by omega)).mp h1, lN_i k⟩
theorem sim_collect0 {w : cx_W} {m : cm_W} (h : Sim w m) (y : Int64) : (f_CarDesk_collect w 0 y).1 = (f_Model_collect m 0 y).1 ∧ Sim (f_CarDesk_collect w 0 y).2 (f_Model_collect m 0 y).2 := by
  unfold f_CarDesk_collect f_Model_collect
  rw [cd_oc_s (show f_CarDesk_trayOfSort 0 = some 0 from rfl), if_neg (show ¬ (0 : Int32) < 0 by decide), if_pos (show (0 : Int32) ≤ 2 by decide)]
  by_cases h0 : y < 0
  · rw [if_pos h0, if_pos h0]
    exact ⟨rfl, sim_refuse h _⟩
  rw [if_neg h0, if_neg h0]
  rw [if_pos (show (0 : Int32) = 0 from rfl)]
  rw [show (0 : Int32).toNatClampNeg = 0 by decide, show (cx_most 0).toInt64 = 127 by decide]
  by_cases h1 : y ≤ 127
  · rw [if_pos h1, if_pos h1]
    obtain ⟨hA, hT, hR⟩ := id h
    have hc := hT.2.1.1
    have hc2 := hT.1 0
    have hv := hT.2.1.2
    unfold f_Tray_isFull
    by_cases h2 : x_cnt w 0 < 200
    · obtain ⟨a1, a2⟩ := full_n h2
      rw [if_pos a1, if_pos rfl, hc, if_neg a2, nI_clamp (show x_cnt w 0 < 2 ^ 31 by omega)]
      refine ⟨?_, sA_up (sA_0 hA) 7 (by show x_mc m 8 + 1 = x_ctr w 7 + 1; rw [hA 7 (by decide)]), ⟨fun t => ?_, ⟨?_, fun i hi => ?_⟩, hT.2.2.1, hT.2.2.2⟩, hR⟩
      · show nI (va_up (x_cnt w) 0 (x_cnt w 0 + 1) 0) = nI (x_cnt w 0) + 1
        rw [va_up_self, nI_succ]
      · show va_up (x_cnt w) 0 (x_cnt w 0 + 1) t ≤ 200
        unfold va_up
        split
        · omega
        · exact hT.1 t
      · show upd (x_mi m 3) 0 (nI (x_cnt w 0) + 1) 0 = nI (va_up (x_cnt w) 0 (x_cnt w 0 + 1) 0)
        rw [va_up_self, nI_succ]
        simp [upd]
      · have hi' : i < x_cnt w 0 + 1 := by
          have : i < va_up (x_cnt w) 0 (x_cnt w 0 + 1) 0 := hi
          rwa [va_up_self] at this
        show upd (x_mi m 0) (x_cnt w 0) y.toInt32 i = va_up (x_val w) 0 (upd (x_val w 0) (x_cnt w 0) y.toInt32) 0 i
        rw [va_up_self]
        unfold upd
        split
        · rfl
        · exact hv i (by omega)
    · have e : x_cnt w 0 = 200 := by omega
      rw [hc, e, if_neg (show ¬ nI 200 < 200 by decide), if_neg (show ¬ (1 : Int32) = 0 by decide), if_pos (show nI 200 = 200 from rfl)]
      exact ⟨rfl, sim_refuse h _⟩
  · rw [if_neg h1, if_neg h1]
    exact ⟨rfl, sim_refuse h _⟩
theorem sim_collect1 {w : cx_W} {m : cm_W} (h : Sim w m) (y : Int64) : (f_CarDesk_collect w 1 y).1 = (f_Model_collect m 1 y).1 ∧ Sim (f_CarDesk_collect w 1 y).2 (f_Model_collect m 1 y).2 := by
  unfold f_CarDesk_collect f_Model_collect
  rw [cd_oc_s (show f_CarDesk_trayOfSort 1 = some 1 from rfl), if_neg (show ¬ (1 : Int32) < 0 by decide), if_pos (show (1 : Int32) ≤ 2 by decide)]
  by_cases h0 : y < 0
  · rw [if_pos h0, if_pos h0]
    exact ⟨rfl, sim_refuse h _⟩
  rw [if_neg h0, if_neg h0]
  rw [if_neg (show ¬ (1 : Int32) = 0 by decide), if_pos (show (1 : Int32) = 1 from rfl)]
  rw [show (1 : Int32).toNatClampNeg = 1 by decide, show (cx_most 1).toInt64 = 1 by decide]
  by_cases h1 : y ≤ 1
  · rw [if_pos h1, if_pos h1]
    obtain ⟨hA, hT, hR⟩ := id h
    have hc := hT.2.2.1.1
    have hc2 := hT.1 1
    have hv := hT.2.2.1.2
    unfold f_Tray_isFull
    by_cases h2 : x_cnt w 1 < 200
    · obtain ⟨a1, a2⟩ := full_n h2
      rw [if_pos a1, if_pos rfl, hc, if_neg a2, nI_clamp (show x_cnt w 1 < 2 ^ 31 by omega)]
      refine ⟨?_, sA_up (sA_0 hA) 7 (by show x_mc m 8 + 1 = x_ctr w 7 + 1; rw [hA 7 (by decide)]), ⟨fun t => ?_, hT.2.1, ⟨?_, fun i hi => ⟨?_, ?_⟩⟩, hT.2.2.2⟩, hR⟩
      · show nI (va_up (x_cnt w) 1 (x_cnt w 1 + 1) 1) = nI (x_cnt w 1) + 1
        rw [va_up_self, nI_succ]
      · show va_up (x_cnt w) 1 (x_cnt w 1 + 1) t ≤ 200
        unfold va_up
        split
        · omega
        · exact hT.1 t
      · show upd (x_mi m 3) 1 (nI (x_cnt w 1) + 1) 1 = nI (va_up (x_cnt w) 1 (x_cnt w 1 + 1) 1)
        rw [va_up_self, nI_succ]
        simp [upd]
      · have hi' : i < x_cnt w 1 + 1 := by
          have : i < va_up (x_cnt w) 1 (x_cnt w 1 + 1) 1 := hi
          rwa [va_up_self] at this
        show upd (x_mi m 1) (x_cnt w 1) y.toInt32 i = va_up (x_val w) 1 (upd (x_val w 1) (x_cnt w 1) y.toInt32) 1 i
        rw [va_up_self]
        unfold upd
        split
        · rfl
        · exact (hv i (by omega)).1
      · have hi' : i < x_cnt w 1 + 1 := by
          have : i < va_up (x_cnt w) 1 (x_cnt w 1 + 1) 1 := hi
          rwa [va_up_self] at this
        show va_up (x_val w) 1 (upd (x_val w 1) (x_cnt w 1) y.toInt32) 1 i = 0 ∨ va_up (x_val w) 1 (upd (x_val w 1) (x_cnt w 1) y.toInt32) 1 i = 1
        rw [va_up_self]
        unfold upd
        split
        · obtain ⟨b, hb, e⟩ := lN_rng h0 (show y ≤ lN 1 from h1) (by decide)
          rw [e]
          rcases (show b = 0 ∨ b = 1 by omega) with rfl | rfl
          · exact Or.inl rfl
          · exact Or.inr rfl
        · exact (hv i (by omega)).2
    · have e : x_cnt w 1 = 200 := by omega
      rw [hc, e, if_neg (show ¬ nI 200 < 200 by decide), if_neg (show ¬ (1 : Int32) = 0 by decide), if_pos (show nI 200 = 200 from rfl)]
      exact ⟨rfl, sim_refuse h _⟩
  · rw [if_neg h1, if_neg h1]
    exact ⟨rfl, sim_refuse h _⟩
theorem sim_collect2 {w : cx_W} {m : cm_W} (h : Sim w m) (y : Int64) : (f_CarDesk_collect w 2 y).1 = (f_Model_collect m 2 y).1 ∧ Sim (f_CarDesk_collect w 2 y).2 (f_Model_collect m 2 y).2 := by
  unfold f_CarDesk_collect f_Model_collect
  rw [cd_oc_s (show f_CarDesk_trayOfSort 2 = some 2 from rfl), if_neg (show ¬ (2 : Int32) < 0 by decide), if_pos (show (2 : Int32) ≤ 2 by decide)]
  by_cases h0 : y < 0
  · rw [if_pos h0, if_pos h0]
    exact ⟨rfl, sim_refuse h _⟩
  rw [if_neg h0, if_neg h0]
  rw [if_neg (show ¬ (2 : Int32) = 0 by decide), if_neg (show ¬ (2 : Int32) = 1 by decide)]
  rw [show (2 : Int32).toNatClampNeg = 2 by decide, show (cx_most 2).toInt64 = 255 by decide]
  by_cases h1 : y ≤ 255
  · rw [if_pos h1, if_pos h1]
    obtain ⟨hA, hT, hR⟩ := id h
    have hc := hT.2.2.2.1
    have hc2 := hT.1 2
    have hv := hT.2.2.2.2
    unfold f_Tray_isFull
    by_cases h2 : x_cnt w 2 < 200
    · obtain ⟨a1, a2⟩ := full_n h2
      rw [if_pos a1, if_pos rfl, hc, if_neg a2, nI_clamp (show x_cnt w 2 < 2 ^ 31 by omega)]
      refine ⟨?_, sA_up (sA_0 hA) 7 (by show x_mc m 8 + 1 = x_ctr w 7 + 1; rw [hA 7 (by decide)]), ⟨fun t => ?_, hT.2.1, hT.2.2.1, ⟨?_, fun i hi => ⟨?_, ?_⟩⟩⟩, hR⟩
      · show nI (va_up (x_cnt w) 2 (x_cnt w 2 + 1) 2) = nI (x_cnt w 2) + 1
        rw [va_up_self, nI_succ]
      · show va_up (x_cnt w) 2 (x_cnt w 2 + 1) t ≤ 200
        unfold va_up
        split
        · omega
        · exact hT.1 t
      · show upd (x_mi m 3) 2 (nI (x_cnt w 2) + 1) 2 = nI (va_up (x_cnt w) 2 (x_cnt w 2 + 1) 2)
        rw [va_up_self, nI_succ]
        simp [upd]
      · have hi' : i < x_cnt w 2 + 1 := by
          have : i < va_up (x_cnt w) 2 (x_cnt w 2 + 1) 2 := hi
          rwa [va_up_self] at this
        show upd (x_mi m 2) (x_cnt w 2) y.toInt32 i = va_up (x_val w) 2 (upd (x_val w 2) (x_cnt w 2) y.toInt32) 2 i
        rw [va_up_self]
        unfold upd
        split
        · rfl
        · exact (hv i (by omega)).1
      · have hi' : i < x_cnt w 2 + 1 := by
          have : i < va_up (x_cnt w) 2 (x_cnt w 2 + 1) 2 := hi
          rwa [va_up_self] at this
        show ∃ b, b ≤ 255 ∧ va_up (x_val w) 2 (upd (x_val w 2) (x_cnt w 2) y.toInt32) 2 i = nI b
        rw [va_up_self]
        unfold upd
        split
        · exact lN_rng h0 (show y ≤ lN 255 from h1) (by decide)
        · exact (hv i (by omega)).2
    · have e : x_cnt w 2 = 200 := by omega
      rw [hc, e, if_neg (show ¬ nI 200 < 200 by decide), if_neg (show ¬ (1 : Int32) = 0 by decide), if_pos (show nI 200 = 200 from rfl)]
      exact ⟨rfl, sim_refuse h _⟩
  · rw [if_neg h1, if_neg h1]
    exact ⟨rfl, sim_refuse h _⟩
theorem sim_collect {w : cx_W} {m : cm_W} (h : Sim w m) (x : Int32) (y : Int64) : (f_CarDesk_collect w x y).1 = (f_Model_collect m x y).1 ∧ Sim (f_CarDesk_collect w x y).2 (f_Model_collect m x y).2 := by
  by_cases hin : vp_in x 3
  · obtain ⟨j, hj, rfl⟩ := vp_in_of hin (by decide)
    rcases (show j = 0 ∨ j = 1 ∨ j = 2 by omega) with rfl | rfl | rfl
    · exact sim_collect0 h y
    · exact sim_collect1 h y
    · exact sim_collect2 h y
  · have n0 : ¬ x = 0 := fun q => hin (by rw [q]; exact vp_in_nI (n := 0) (by decide) (by decide))
    have n1 : ¬ x = 1 := fun q => hin (by rw [q]; exact vp_in_nI (n := 1) (by decide) (by decide))
    have n2 : ¬ x = 2 := fun q => hin (by rw [q]; exact vp_in_nI (n := 2) (by decide) (by decide))
    unfold f_CarDesk_collect f_Model_collect
    rw [cd_oc_n (show f_CarDesk_trayOfSort x = none by unfold f_CarDesk_trayOfSort; rw [if_neg n0, if_neg n1, if_neg n2])]
    by_cases h0 : x < 0
    · rw [if_pos h0]
      exact ⟨rfl, sim_refuse h _⟩
    · rw [if_neg h0, if_neg (fun q => hin (cm_in2 h0 q))]
      exact ⟨rfl, sim_refuse h _⟩
