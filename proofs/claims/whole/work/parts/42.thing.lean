def f_Thing_isInUse (w : cx_W) (j : Nat) : Int32 := if (x_us w j) ≤ 0 then 0 else 1
set_option maxHeartbeats 4000000 in
set_option maxRecDepth 100000 in
theorem c_Thing_isInUse (l : Launch) (D : va_G) (dA : Nat → ClassId) (b0 : Nat) (w : cx_W) (j : Nat) (h_j : x_al w j) : cd_Ct l D (cx_tys dA) b0 y_Thing_isInUse (.code y_Thing_isInUse b_Thing_isInUse 1 (some .boolean) :: cd_WA) { frames := 0, cells := 0, slots := 0, locals := 0 } [.ref (x_ad w 8 j)] (cx_dm w) (x_ad w) (cx_ce dA w) (cx_R dA (some (.int (f_Thing_isInUse w j))) w) 0 0 := by
  refine cd_Ct.of b_Thing_isInUse 1 (some .boolean) (by decide) rfl ?_
  intro p e s m below meth c hx hb hr hml hown hlocks hnm hA hE hb0 hW hS ls hl
  have hK := hE.1
  have hl : lv_has ls 1 [(0, .ref (x_ad w 8 j))] := hl
  refine lv_aload_n hx hb d_Thing_isInUse_0 rfl (lv_at hl 0 rfl) ?_
  refine cd_get (ci := 3) (C := R_Thing) (T := F_Thing) (N := 5) (v := .int (x_us w j)) hx hb hA i_Thing hown hK hW 8 j h_j rfl rfl 3 (by decide) mw_6 rfl rfl d_Thing_isInUse_1 ?_
  refine lv_if_le (tgt := 11) hx hb d_Thing_isInUse_4 (by decide) (fun c_1 => ?_) (fun c_1 => ?_)
  · skip
    refine lv_iconst (v := 0) hx hb d_Thing_isInUse_11 (by decide) ?_
    have hf : f_Thing_isInUse w j = 0 := by
      simp only [f_Thing_isInUse, if_pos c_1]
    exact cd_zret hx hb hr hlocks hW hS d_Thing_isInUse_12 (by decide) ⟨by rw [hf], rfl, rfl, rfl⟩ (Nat.le_of_ble_eq_true rfl) (Nat.le_of_ble_eq_true rfl)
  · skip
    refine lv_iconst (v := 1) hx hb d_Thing_isInUse_7 (by decide) ?_
    refine lv_goto (tgt := 12) hx hb d_Thing_isInUse_8 (by decide) ?_
    have hf : f_Thing_isInUse w j = 1 := by
      simp only [f_Thing_isInUse, if_neg c_1]
    exact cd_zret hx hb hr hlocks hW hS d_Thing_isInUse_12 (by decide) ⟨by rw [hf], rfl, rfl, rfl⟩ (Nat.le_of_ble_eq_true rfl) (Nat.le_of_ble_eq_true rfl)

def f_Thing_stateOfSource (w : cx_W) (j : Nat) : Int64 := cd_oc (x_src w j) 0 (fun j_2 => (x_st w j_2))
set_option maxHeartbeats 4000000 in
set_option maxRecDepth 100000 in
theorem c_Thing_stateOfSource (l : Launch) (D : va_G) (dA : Nat → ClassId) (b0 : Nat) (w : cx_W) (j : Nat) (h_j : x_al w j) (hI : cx_Iv w) : cd_Ct l D (cx_tys dA) b0 y_Thing_stateOfSource (.code y_Thing_stateOfSource b_Thing_stateOfSource 1 (some .long) :: cd_WA) { frames := 0, cells := 0, slots := 0, locals := 0 } [.ref (x_ad w 8 j)] (cx_dm w) (x_ad w) (cx_ce dA w) (cx_R dA (some (.long (f_Thing_stateOfSource w j))) w) 0 0 := by
  refine cd_Ct.of b_Thing_stateOfSource 1 (some .long) (by decide) rfl ?_
  intro p e s m below meth c hx hb hr hml hown hlocks hnm hA hE hb0 hW hS ls hl
  have hK := hE.1
  have hl : lv_has ls 1 [(0, .ref (x_ad w 8 j))] := hl
  refine lv_aload_n hx hb d_Thing_stateOfSource_0 rfl (lv_at hl 0 rfl) ?_
  refine cd_get (ci := 3) (C := R_Thing) (T := F_Thing) (N := 5) (v := va_rf ((x_src w j).map (x_ad w 8))) hx hb hA i_Thing hown hK hW 8 j h_j rfl rfl 0 (by decide) mw_7 rfl rfl d_Thing_stateOfSource_1 ?_
  rcases ho_1 : (x_src w j) with _ | j_2
  · skip
    refine lv_ifnonnullN hx hb d_Thing_stateOfSource_4 ?_
    refine lv_lconst (v := 0) hx hb d_Thing_stateOfSource_7 (by decide) ?_
    refine lv_goto (tgt := 18) hx hb d_Thing_stateOfSource_8 (by decide) ?_
    have hf : f_Thing_stateOfSource w j = 0 := by
      simp only [f_Thing_stateOfSource, cd_oc_n ho_1]
    exact cd_lret hx hb hr hlocks hW hS d_Thing_stateOfSource_18 ⟨by rw [hf], rfl, rfl, rfl⟩ (Nat.le_of_ble_eq_true rfl) (Nat.le_of_ble_eq_true rfl)
  · skip
    have h_j_2 : x_al w j_2 := hI.2.2.2 _ _ h_j ho_1
    refine lv_ifnonnull (tgt := 11) hx hb d_Thing_stateOfSource_4 (by decide) ?_
    refine lv_aload_n hx hb d_Thing_stateOfSource_11 rfl (lv_at hl 0 rfl) ?_
    refine cd_get (ci := 3) (C := R_Thing) (T := F_Thing) (N := 5) (v := .ref (x_ad w 8 j_2)) hx hb hA i_Thing hown hK hW 8 j h_j rfl rfl 0 (by decide) mw_7 rfl (by show some (va_rf ((x_src w j).map (x_ad w 8))) = _; rw [ho_1]; rfl) d_Thing_stateOfSource_12 ?_
    refine cd_get (ci := 3) (C := R_Thing) (T := F_Thing) (N := 5) (v := .long (x_st w j_2)) hx hb hA i_Thing hown hK hW 8 j_2 h_j_2 rfl rfl 1 (by decide) mw_8 rfl rfl d_Thing_stateOfSource_15 ?_
    have hf : f_Thing_stateOfSource w j = (x_st w j_2) := by
      simp only [f_Thing_stateOfSource, cd_oc_s ho_1]
    exact cd_lret hx hb hr hlocks hW hS d_Thing_stateOfSource_18 ⟨by rw [hf], rfl, rfl, rfl⟩ (Nat.le_of_ble_eq_true rfl) (Nat.le_of_ble_eq_true rfl)

def f_lus (us : Nat → Int32) (o : Option Nat) : Nat → Int32 := cd_oc o us (fun j => va_up us j (us j - 1))
def f_Thing_leave (w : cx_W) (j : Nat) : cx_W := ((w.1.1, w.1.2.1, w.1.2.2.1, w.1.2.2.2.1, w.1.2.2.2.2.1, w.1.2.2.2.2.2.1, w.1.2.2.2.2.2.2.1, w.1.2.2.2.2.2.2.2.1, w.1.2.2.2.2.2.2.2.2.1, f_lus (x_us w) (x_src w j), va_up (x_th w) j 0, w.1.2.2.2.2.2.2.2.2.2.2.2), w.2)
set_option maxHeartbeats 4000000 in
set_option maxRecDepth 100000 in
theorem c_Thing_leave (l : Launch) (D : va_G) (dA : Nat → ClassId) (b0 : Nat) (w : cx_W) (j : Nat) (h_j : x_al w j) (hI : cx_Iv w) : cd_Ct l D (cx_tys dA) b0 y_Thing_leave (.code y_Thing_leave b_Thing_leave 1 none :: cd_WA) { frames := 0, cells := 0, slots := 0, locals := 0 } [.ref (x_ad w 8 j)] (cx_dm w) (x_ad w) (cx_ce dA w) (cx_R dA none (f_Thing_leave w j)) 0 0 := by
  refine cd_Ct.of b_Thing_leave 1 none (by decide) rfl ?_
  intro p e s m below meth c hx hb hr hml hown hlocks hnm hA hE hb0 hW hS ls hl
  have hK := hE.1
  have hl : lv_has ls 1 [(0, .ref (x_ad w 8 j))] := hl
  refine lv_aload_n hx hb d_Thing_leave_0 rfl (lv_at hl 0 rfl) ?_
  refine lv_iconst (v := 0) hx hb d_Thing_leave_1 (by decide) ?_
  refine cd_put (ci := 3) (C := R_Thing) (T := F_Thing) (N := 5) (v := .int 0) hx hb hA i_Thing t_Thing t_Thing_ok n_Thing hown hK hW hS 8 j h_j rfl rfl 4 (by decide) mw_9 rfl rfl rfl rfl (Nat.le_of_ble_eq_true rfl) d_Thing_leave_2 (cx_ce dA (u_th w j 0)) (nw_th ..) (kp_th dA w j 0) (fun H locs hW hS => ?_)
  have hW : cx_Wo D dA b0 (u_th w j 0) H := to_th hW
  refine lv_aload_n hx hb d_Thing_leave_5 rfl (lv_at hl 0 rfl) ?_
  refine cd_get (ci := 3) (C := R_Thing) (T := F_Thing) (N := 5) (v := va_rf ((x_src w j).map (x_ad w 8))) hx hb hA i_Thing hown hK hW 8 j h_j rfl rfl 0 (by decide) mw_7 rfl rfl d_Thing_leave_6 ?_
  rcases ho_1 : (x_src w j) with _ | j_2
  · skip
    refine lv_ifnullN (tgt := 25) hx hb d_Thing_leave_9 (by decide) ?_
    have hf : f_Thing_leave w j = (u_th w j 0) := by
      simp only [f_Thing_leave, cd_oc_n ho_1, f_lus]
    exact cd_vret hx hb hr hlocks hW hS d_Thing_leave_25 ⟨rfl, by rw [hf], by rw [hf], by rw [hf]⟩ (Nat.le_of_ble_eq_true rfl) (Nat.le_of_ble_eq_true rfl)
  · skip
    have h_j_2 : x_al w j_2 := hI.2.2.2 _ _ h_j ho_1
    refine lv_ifnull hx hb d_Thing_leave_9 ?_
    refine lv_aload_n hx hb d_Thing_leave_12 rfl (lv_at hl 0 rfl) ?_
    refine cd_get (ci := 3) (C := R_Thing) (T := F_Thing) (N := 5) (v := .ref (x_ad w 8 j_2)) hx hb hA i_Thing hown hK hW 8 j h_j rfl rfl 0 (by decide) mw_7 rfl (by show some (va_rf ((x_src w j).map (x_ad w 8))) = _; rw [ho_1]; rfl) d_Thing_leave_13 ?_
    refine lv_dup hx hb d_Thing_leave_16 rfl ?_
    refine cd_get (ci := 3) (C := R_Thing) (T := F_Thing) (N := 5) (v := .int (x_us w j_2)) hx hb hA i_Thing hown hK hW 8 j_2 h_j_2 rfl rfl 3 (by decide) mw_6 rfl rfl d_Thing_leave_17 ?_
    refine lv_iconst (v := 1) hx hb d_Thing_leave_20 (by decide) ?_
    refine lv_isub hx hb d_Thing_leave_21 ?_
    refine cd_put (ci := 3) (C := R_Thing) (T := F_Thing) (N := 5) (v := .int ((x_us w j_2) - 1)) hx hb hA i_Thing t_Thing t_Thing_ok n_Thing hown hK hW hS 8 j_2 h_j_2 rfl rfl 3 (by decide) mw_6 rfl rfl rfl rfl (Nat.le_of_ble_eq_true rfl) d_Thing_leave_22 (cx_ce dA (u_us (u_th w j 0) j_2 ((x_us w j_2) - 1))) (nw_us ..) (kp_us dA (u_th w j 0) j_2 ((x_us w j_2) - 1)) (fun H locs hW hS => ?_)
    have hW : cx_Wo D dA b0 (u_us (u_th w j 0) j_2 ((x_us w j_2) - 1)) H := to_us hW
    have hf : f_Thing_leave w j = (u_us (u_th w j 0) j_2 ((x_us w j_2) - 1)) := by
      simp only [f_Thing_leave, cd_oc_s ho_1, f_lus]
    exact cd_vret hx hb hr hlocks hW hS d_Thing_leave_25 ⟨rfl, by rw [hf], by rw [hf], by rw [hf]⟩ (Nat.le_of_ble_eq_true rfl) (Nat.le_of_ble_eq_true rfl)

def f_Thing_comparedWith (w : cx_W) (j : Nat) (o : Option Nat) : Int32 := cd_oc o 0 (fun j_2 => if (x_st w j_2) ≤ (x_st w j) then (if (x_st w j) = (x_st w j_2) then 1 else 2) else 0)
set_option maxHeartbeats 4000000 in
set_option maxRecDepth 100000 in
theorem c_Thing_comparedWith (l : Launch) (D : va_G) (dA : Nat → ClassId) (b0 : Nat) (w : cx_W) (j : Nat) (o : Option Nat) (h_j : x_al w j) (h_o : ∀ j, o = some j → x_al w j) : cd_Ct l D (cx_tys dA) b0 y_Thing_comparedWith (.code y_Thing_comparedWith b_Thing_comparedWith 2 (some .int) :: cd_WA) { frames := 0, cells := 0, slots := 0, locals := 0 } [.ref (x_ad w 8 j), va_rf (o.map (x_ad w 8))] (cx_dm w) (x_ad w) (cx_ce dA w) (cx_R dA (some (.int (f_Thing_comparedWith w j o))) w) 0 0 := by
  refine cd_Ct.of b_Thing_comparedWith 2 (some .int) (by decide) (by cases o <;> rfl) ?_
  intro p e s m below meth c hx hb hr hml hown hlocks hnm hA hE hb0 hW hS ls hl
  have hK := hE.1
  obtain ⟨o', eo⟩ : ∃ z, o = z := ⟨_, rfl⟩
  have hl : lv_has ls 2 [(0, .ref (x_ad w 8 j)), (1, va_rf (o'.map (x_ad w 8)))] := by
    rw [← eo]
    cases o <;> exact hl
  rcases ho_1 : o' with _ | j_2
  · skip
    rw [ho_1] at hl
    have ho_1 : o = none := eo.trans ho_1
    refine lv_aload_nN hx hb d_Thing_comparedWith_0 rfl (lv_at hl 1 rfl) ?_
    refine lv_ifnullN (tgt := 16) hx hb d_Thing_comparedWith_1 (by decide) ?_
    refine lv_iconst (v := 0) hx hb d_Thing_comparedWith_16 (by decide) ?_
    have hf : f_Thing_comparedWith w j o = 0 := by
      simp only [f_Thing_comparedWith, cd_oc_n ho_1]
    exact cd_iret hx hb hr hlocks hW hS d_Thing_comparedWith_17 ⟨by rw [hf], rfl, rfl, rfl⟩ (Nat.le_of_ble_eq_true rfl) (Nat.le_of_ble_eq_true rfl)
  · skip
    rw [ho_1] at hl
    have ho_1 : o = some j_2 := eo.trans ho_1
    have h_j_2 : x_al w j_2 := h_o _ ho_1
    refine lv_aload_n hx hb d_Thing_comparedWith_0 rfl (lv_at hl 1 rfl) ?_
    refine lv_ifnull hx hb d_Thing_comparedWith_1 ?_
    refine lv_aload_n hx hb d_Thing_comparedWith_4 rfl (lv_at hl 0 rfl) ?_
    refine cd_get (ci := 3) (C := R_Thing) (T := F_Thing) (N := 5) (v := .long (x_st w j)) hx hb hA i_Thing hown hK hW 8 j h_j rfl rfl 1 (by decide) mw_8 rfl rfl d_Thing_comparedWith_5 ?_
    refine lv_aload_n hx hb d_Thing_comparedWith_8 rfl (lv_at hl 1 rfl) ?_
    refine cd_get (ci := 3) (C := R_Thing) (T := F_Thing) (N := 5) (v := .long (x_st w j_2)) hx hb hA i_Thing hown hK hW 8 j_2 h_j_2 rfl rfl 1 (by decide) mw_8 rfl rfl d_Thing_comparedWith_9 ?_
    refine cd_lc_ge (tgt := 18) hx hb d_Thing_comparedWith_12 d_Thing_comparedWith_13 (by decide) (fun c_3 => ?_) (fun c_3 => ?_)
    · skip
      refine lv_aload_n hx hb d_Thing_comparedWith_18 rfl (lv_at hl 0 rfl) ?_
      refine cd_get (ci := 3) (C := R_Thing) (T := F_Thing) (N := 5) (v := .long (x_st w j)) hx hb hA i_Thing hown hK hW 8 j h_j rfl rfl 1 (by decide) mw_8 rfl rfl d_Thing_comparedWith_19 ?_
      refine lv_aload_n hx hb d_Thing_comparedWith_22 rfl (lv_at hl 1 rfl) ?_
      refine cd_get (ci := 3) (C := R_Thing) (T := F_Thing) (N := 5) (v := .long (x_st w j_2)) hx hb hA i_Thing hown hK hW 8 j_2 h_j_2 rfl rfl 1 (by decide) mw_8 rfl rfl d_Thing_comparedWith_23 ?_
      refine cd_lc_ne (tgt := 34) hx hb d_Thing_comparedWith_26 d_Thing_comparedWith_27 (by decide) (fun c_4 => ?_) (fun c_4 => ?_)
      · skip
        refine lv_iconst (v := 2) hx hb d_Thing_comparedWith_34 (by decide) ?_
        have hf : f_Thing_comparedWith w j o = 2 := by
          simp only [f_Thing_comparedWith, cd_oc_s ho_1, if_pos c_3, if_neg c_4]
        exact cd_iret hx hb hr hlocks hW hS d_Thing_comparedWith_35 ⟨by rw [hf], rfl, rfl, rfl⟩ (Nat.le_of_ble_eq_true rfl) (Nat.le_of_ble_eq_true rfl)
      · skip
        refine lv_iconst (v := 1) hx hb d_Thing_comparedWith_30 (by decide) ?_
        refine lv_goto (tgt := 35) hx hb d_Thing_comparedWith_31 (by decide) ?_
        have hf : f_Thing_comparedWith w j o = 1 := by
          simp only [f_Thing_comparedWith, cd_oc_s ho_1, if_pos c_3, if_pos c_4]
        exact cd_iret hx hb hr hlocks hW hS d_Thing_comparedWith_35 ⟨by rw [hf], rfl, rfl, rfl⟩ (Nat.le_of_ble_eq_true rfl) (Nat.le_of_ble_eq_true rfl)
    · skip
      refine lv_iconst (v := 0) hx hb d_Thing_comparedWith_16 (by decide) ?_
      have hf : f_Thing_comparedWith w j o = 0 := by
        simp only [f_Thing_comparedWith, cd_oc_s ho_1, if_neg c_3]
      exact cd_iret hx hb hr hlocks hW hS d_Thing_comparedWith_17 ⟨by rw [hf], rfl, rfl, rfl⟩ (Nat.le_of_ble_eq_true rfl) (Nat.le_of_ble_eq_true rfl)

def f_ius (us : Nat → Int32) (o : Option Nat) : Nat → Int32 := cd_oc o us (fun q => va_up us q (us q + 1))
def f_Thing_init (w : cx_W) (j : Nat) (v : Int64) (o : Option Nat) : cx_W := ((w.1.1, w.1.2.1, w.1.2.2.1, w.1.2.2.2.1, w.1.2.2.2.2.1, w.1.2.2.2.2.2.1, w.1.2.2.2.2.2.2.1, va_up (x_st w) j v, va_up (x_tu w) j 0, f_ius (va_up (x_us w) j 0) o, va_up (x_th w) j 1, va_up (x_src w) j o, w.1.2.2.2.2.2.2.2.2.2.2.2.2), w.2)
set_option maxHeartbeats 4000000 in
set_option maxRecDepth 100000 in
theorem c_Thing_init (l : Launch) (D : va_G) (dA : Nat → ClassId) (b0 : Nat) (w : cx_W) (j : Nat) (v : Int64) (o : Option Nat) (h_j : x_al w j) (h_o : ∀ j, o = some j → x_al w j) : cd_Ct l D (cx_tys dA) b0 y_Thing_init (.code y_Thing_init b_Thing_init 4 none :: cd_WA) { frames := 1, cells := 0, slots := 0, locals := 12 } [.ref (x_ad w 8 j), .long v, va_rf (o.map (x_ad w 8))] (cx_dm w) (x_ad w) (cx_ce dA w) (cx_R dA none (f_Thing_init w j v o)) 0 0 := by
  refine cd_Ct.of b_Thing_init 4 none (by decide) (by cases o <;> rfl) ?_
  intro p e s m below meth c hx hb hr hml hown hlocks hnm hA hE hb0 hW hS ls hl
  have hK := hE.1
  obtain ⟨o', eo⟩ : ∃ z, o = z := ⟨_, rfl⟩
  have hl : lv_has ls 4 [(0, .ref (x_ad w 8 j)), (1, .long v), (3, va_rf (o'.map (x_ad w 8)))] := by
    rw [← eo]
    cases o <;> exact hl
  refine lv_aload_n hx hb d_Thing_init_0 rfl (lv_at hl 0 rfl) ?_
  refine cd_objI hx hb hown (hA _ mw_17) (hA _ mw_18) (hA _ mw_19) (by rw [hml]; exact hl.1) d_Thing_init_1 (Nat.le_of_ble_eq_true rfl) (Nat.le_of_ble_eq_true rfl) ?_
  refine lv_aload_n hx hb d_Thing_init_4 rfl (lv_at hl 0 rfl) ?_
  refine lv_iconst (v := 0) hx hb d_Thing_init_5 (by decide) ?_
  refine cd_put (ci := 3) (C := R_Thing) (T := F_Thing) (N := 5) (v := .int 0) hx hb hA i_Thing t_Thing t_Thing_ok n_Thing hown hK hW hS 8 j h_j rfl rfl 2 (by decide) mw_20 rfl rfl rfl rfl (Nat.le_of_ble_eq_true rfl) d_Thing_init_6 (cx_ce dA (u_thing w j (x_st w j) 0 (x_us w j) (x_th w j) (x_src w j))) (nw_thing ..) (kp_thing dA w j _ _ _ _ _) (fun H locs hW hS => ?_)
  have hW : cx_Wo D dA b0 (u_thing w j (x_st w j) 0 (x_us w j) (x_th w j) (x_src w j)) H := to_thing hW
  refine lv_aload_n hx hb d_Thing_init_9 rfl (lv_at hl 0 rfl) ?_
  refine lv_iconst (v := 0) hx hb d_Thing_init_10 (by decide) ?_
  refine cd_put (ci := 3) (C := R_Thing) (T := F_Thing) (N := 5) (v := .int 0) hx hb hA i_Thing t_Thing t_Thing_ok n_Thing hown hK hW hS 8 j (al_thing h_j) (nw_thing ..) rfl 3 (by decide) mw_6 rfl rfl rfl rfl (Nat.le_of_ble_eq_true rfl) d_Thing_init_11 (cx_ce dA (u_thing w j (x_st w j) 0 0 (x_th w j) (x_src w j))) (nw_thing ..) (kp_thing2 dA w j _ _ _ _ _ _ _ _ _ _) (fun H locs hW hS => ?_)
  have hW : cx_Wo D dA b0 (u_thing w j (x_st w j) 0 0 (x_th w j) (x_src w j)) H := to_thing2 hW
  refine lv_aload_n hx hb d_Thing_init_14 rfl (lv_at hl 0 rfl) ?_
  refine lv_iconst (v := 1) hx hb d_Thing_init_15 (by decide) ?_
  refine cd_put (ci := 3) (C := R_Thing) (T := F_Thing) (N := 5) (v := .int 1) hx hb hA i_Thing t_Thing t_Thing_ok n_Thing hown hK hW hS 8 j (al_thing h_j) (nw_thing ..) rfl 4 (by decide) mw_9 rfl rfl rfl rfl (Nat.le_of_ble_eq_true rfl) d_Thing_init_16 (cx_ce dA (u_thing w j (x_st w j) 0 0 1 (x_src w j))) (nw_thing ..) (kp_thing2 dA w j _ _ _ _ _ _ _ _ _ _) (fun H locs hW hS => ?_)
  have hW : cx_Wo D dA b0 (u_thing w j (x_st w j) 0 0 1 (x_src w j)) H := to_thing2 hW
  refine lv_aload_n hx hb d_Thing_init_19 rfl (lv_at hl 0 rfl) ?_
  refine lv_lload_n hx hb d_Thing_init_20 rfl (lv_at hl 1 rfl) ?_
  refine cd_put (ci := 3) (C := R_Thing) (T := F_Thing) (N := 5) (v := .long v) hx hb hA i_Thing t_Thing t_Thing_ok n_Thing hown hK hW hS 8 j (al_thing h_j) (nw_thing ..) rfl 1 (by decide) mw_8 rfl rfl rfl rfl (Nat.le_of_ble_eq_true rfl) d_Thing_init_21 (cx_ce dA (u_thing w j v 0 0 1 (x_src w j))) (nw_thing ..) (kp_thing2 dA w j _ _ _ _ _ _ _ _ _ _) (fun H locs hW hS => ?_)
  have hW : cx_Wo D dA b0 (u_thing w j v 0 0 1 (x_src w j)) H := to_thing2 hW
  refine lv_aload_n hx hb d_Thing_init_24 rfl (lv_at hl 0 rfl) ?_
  rcases ho_1 : o' with _ | j_2
  · skip
    rw [ho_1] at hl
    have ho_1 : o = none := eo.trans ho_1
    refine lv_aload_nN hx hb d_Thing_init_25 rfl (lv_at hl 2 rfl) ?_
    refine cd_putF (ci := 3) (C := R_Thing) (T := F_Thing) (N := 5) (v := .null) hx hb hA i_Thing t_Thing t_Thing_ok n_Thing hown hK hW hS 8 j (al_thing h_j) (nw_thing ..) rfl 0 (by decide) mw_7 rfl rfl hnm rfl rfl rfl (Nat.le_of_ble_eq_true rfl) d_Thing_init_26 (cx_ce dA (u_thing w j v 0 0 1 none)) (nw_thing ..) (kp_thing2 dA w j _ _ _ _ _ _ _ _ _ _) (fun H locs hW hS => ?_)
    have hW : cx_Wo D dA b0 (u_thing w j v 0 0 1 none) H := to_thing2 hW
    refine lv_aload_nN hx hb d_Thing_init_29 rfl (lv_at hl 2 rfl) ?_
    refine lv_ifnullN (tgt := 43) hx hb d_Thing_init_30 (by decide) ?_
    have hf : f_Thing_init w j v o = (u_thing w j v 0 0 1 none) := by
      rw [ho_1]; rfl
    exact cd_vret hx hb hr hlocks hW hS d_Thing_init_43 ⟨rfl, by rw [hf], by rw [hf], by rw [hf]⟩ (Nat.le_of_ble_eq_true rfl) (Nat.le_of_ble_eq_true rfl)
  · skip
    rw [ho_1] at hl
    have ho_1 : o = some j_2 := eo.trans ho_1
    have h_j_2 : x_al w j_2 := h_o _ ho_1
    refine lv_aload_n hx hb d_Thing_init_25 rfl (lv_at hl 2 rfl) ?_
    refine cd_putF (ci := 3) (C := R_Thing) (T := F_Thing) (N := 5) (v := .ref (x_ad w 8 j_2)) hx hb hA i_Thing t_Thing t_Thing_ok n_Thing hown hK hW hS 8 j (al_thing h_j) (nw_thing ..) rfl 0 (by decide) mw_7 rfl rfl hnm rfl rfl rfl (Nat.le_of_ble_eq_true rfl) d_Thing_init_26 (cx_ce dA (u_thing w j v 0 0 1 (some j_2))) (nw_thing ..) (kp_thing2 dA w j _ _ _ _ _ _ _ _ _ _) (fun H locs hW hS => ?_)
    have hW : cx_Wo D dA b0 (u_thing w j v 0 0 1 (some j_2)) H := to_thing2 hW
    refine lv_aload_n hx hb d_Thing_init_29 rfl (lv_at hl 2 rfl) ?_
    refine lv_ifnull hx hb d_Thing_init_30 ?_
    refine lv_aload_n hx hb d_Thing_init_33 rfl (lv_at hl 2 rfl) ?_
    refine lv_dup hx hb d_Thing_init_34 rfl ?_
    refine cd_get (ci := 3) (C := R_Thing) (T := F_Thing) (N := 5) (v := .int (x_us (u_thing w j v 0 0 1 (some j_2)) j_2)) hx hb hA i_Thing hown hK hW 8 j_2 h_j_2 rfl rfl 3 (by decide) mw_6 rfl rfl d_Thing_init_35 ?_
    refine lv_iconst (v := 1) hx hb d_Thing_init_38 (by decide) ?_
    refine lv_iadd hx hb d_Thing_init_39 ?_
    refine cd_put (ci := 3) (C := R_Thing) (T := F_Thing) (N := 5) (v := .int ((x_us (u_thing w j v 0 0 1 (some j_2)) j_2) + 1)) hx hb hA i_Thing t_Thing t_Thing_ok n_Thing hown hK hW hS 8 j_2 h_j_2 rfl rfl 3 (by decide) mw_6 rfl rfl rfl rfl (Nat.le_of_ble_eq_true rfl) d_Thing_init_40 (cx_ce dA (u_us (u_thing w j v 0 0 1 (some j_2)) j_2 (x_us (u_thing w j v 0 0 1 (some j_2)) j_2 + 1))) (nw_us ..) (kp_us dA (u_thing w j v 0 0 1 (some j_2)) j_2 _) (fun H locs hW hS => ?_)
    have hW : cx_Wo D dA b0 (u_us (u_thing w j v 0 0 1 (some j_2)) j_2 (x_us (u_thing w j v 0 0 1 (some j_2)) j_2 + 1)) H := to_us hW
    have hf : f_Thing_init w j v o = (u_us (u_thing w j v 0 0 1 (some j_2)) j_2 (x_us (u_thing w j v 0 0 1 (some j_2)) j_2 + 1)) := by
      rw [ho_1]; rfl
    exact cd_vret hx hb hr hlocks hW hS d_Thing_init_43 ⟨rfl, by rw [hf], by rw [hf], by rw [hf]⟩ (Nat.le_of_ble_eq_true rfl) (Nat.le_of_ble_eq_true rfl)

