def f_Model_refuse (w : cm_W) (r : Int32) : Int32 × cm_W := (r, (u_mc w 1 ((x_mc w 1) + 1)))
set_option maxHeartbeats 4000000 in
set_option maxRecDepth 100000 in
theorem c_Model_refuse (l : Launch) (D : va_G) (dA : Nat → ClassId) (b0 : Nat) (w : cm_W) (r : Int32) : cd_Ct l D (cx_tys dA) b0 y_Model_refuse (.code y_Model_refuse b_Model_refuse 2 (some .int) :: cd_WA) { frames := 0, cells := 0, slots := 0, locals := 0 } [.ref (m_ad w 9 0), .int r] (cm_dm w) (m_ad w) (cm_ce dA w) (cm_R dA (some (.int (f_Model_refuse w r).1)) (f_Model_refuse w r).2) 0 0 := by
  refine cd_Ct.of b_Model_refuse 2 (some .int) (by decide) rfl ?_
  intro p e s m below meth c hx hb hr hml hown hlocks hnm hA hE hb0 hW hS ls hl
  have hK := hE.1
  have hl : lv_has ls 2 [(0, .ref (m_ad w 9 0)), (1, .int r)] := hl
  refine lv_aload_n hx hb d_Model_refuse_0 rfl (lv_at hl 0 rfl) ?_
  refine lv_dup hx hb d_Model_refuse_1 rfl ?_
  refine cd_get (ci := 4) (C := R_Model) (T := F_Model) (N := 20) (v := .int (x_mc w 1)) hx hb hA i_Model hown hK hW 9 0 rfl rfl rfl 12 (by decide) mw_169 rfl rfl d_Model_refuse_2 ?_
  refine lv_iconst (v := 1) hx hb d_Model_refuse_5 (by decide) ?_
  refine lv_iadd hx hb d_Model_refuse_6 ?_
  refine cd_put (ci := 4) (C := R_Model) (T := F_Model) (N := 20) (v := .int ((x_mc w 1) + 1)) hx hb hA i_Model t_Model t_Model_ok n_Model hown hK hW hS 9 0 rfl rfl rfl 12 (by decide) mw_169 rfl rfl rfl rfl (Nat.le_of_ble_eq_true rfl) d_Model_refuse_7 (cm_ce dA (u_mc w 1 ((x_mc w 1) + 1))) rfl (kp_mc dA w 1 ((x_mc w 1) + 1)) (fun H locs hW hS => ?_)
  have hW : cm_Wo D dA b0 (u_mc w 1 ((x_mc w 1) + 1)) H := to_mc hW
  refine lv_iload_n hx hb d_Model_refuse_10 rfl (lv_at hl 1 rfl) ?_
  have hf : f_Model_refuse w r = (r, (u_mc w 1 ((x_mc w 1) + 1))) := by
    rfl
  exact cd_iret hx hb hr hlocks hW hS d_Model_refuse_11 ⟨by rw [hf], by rw [hf], by rw [hf], by rw [hf]⟩ (Nat.le_of_ble_eq_true rfl) (Nat.le_of_ble_eq_true rfl)

def f_Model_isFar (x : Int64) : Int32 := if x < (-1000000000) then 1 else if x ≤ 1000000000 then 0 else 1
set_option maxHeartbeats 4000000 in
set_option maxRecDepth 100000 in
theorem c_Model_isFar (l : Launch) (D : va_G) (dA : Nat → ClassId) (b0 : Nat) (w : cm_W) (x : Int64) : cd_Ct l D (cx_tys dA) b0 y_Model_isFar (.code y_Model_isFar b_Model_isFar 2 (some .boolean) :: cd_WA) { frames := 0, cells := 0, slots := 0, locals := 0 } [.long x] (cm_dm w) (m_ad w) (cm_ce dA w) (cm_R dA (some (.int (f_Model_isFar x))) w) 0 0 := by
  refine cd_Ct.of b_Model_isFar 2 (some .boolean) (by decide) rfl ?_
  intro p e s m below meth c hx hb hr hml hown hlocks hnm hA hE hb0 hW hS ls hl
  have hK := hE.1
  have hl : lv_has ls 2 [(0, .long x)] := hl
  refine lv_lload_n hx hb d_Model_isFar_0 rfl (lv_at hl 0 rfl) ?_
  refine lv_ldc2 (v := (-1000000000)) hx hb hown (hA _ mw_170) d_Model_isFar_1 ?_
  refine cd_lc_lt (tgt := 16) hx hb d_Model_isFar_4 d_Model_isFar_5 (by decide) (fun c_1 => ?_) (fun c_1 => ?_)
  · skip
    refine lv_iconst (v := 1) hx hb d_Model_isFar_16 (by decide) ?_
    refine lv_goto (tgt := 21) hx hb d_Model_isFar_17 (by decide) ?_
    have hf : f_Model_isFar x = 1 := by
      simp only [f_Model_isFar, if_pos c_1]
    exact cd_zret hx hb hr hlocks hW hS d_Model_isFar_21 (by decide) ⟨by rw [hf], rfl, rfl, rfl⟩ (Nat.le_of_ble_eq_true rfl) (Nat.le_of_ble_eq_true rfl)
  · skip
    refine lv_lload_n hx hb d_Model_isFar_8 rfl (lv_at hl 0 rfl) ?_
    refine lv_ldc2 (v := 1000000000) hx hb hown (hA _ mw_171) d_Model_isFar_9 ?_
    refine cd_lc_le (tgt := 20) hx hb d_Model_isFar_12 d_Model_isFar_13 (by decide) (fun c_2 => ?_) (fun c_2 => ?_)
    · skip
      refine lv_iconst (v := 0) hx hb d_Model_isFar_20 (by decide) ?_
      have hf : f_Model_isFar x = 0 := by
        simp only [f_Model_isFar, if_neg c_1, if_pos c_2]
      exact cd_zret hx hb hr hlocks hW hS d_Model_isFar_21 (by decide) ⟨by rw [hf], rfl, rfl, rfl⟩ (Nat.le_of_ble_eq_true rfl) (Nat.le_of_ble_eq_true rfl)
    · skip
      refine lv_iconst (v := 1) hx hb d_Model_isFar_16 (by decide) ?_
      refine lv_goto (tgt := 21) hx hb d_Model_isFar_17 (by decide) ?_
      have hf : f_Model_isFar x = 1 := by
        simp only [f_Model_isFar, if_neg c_1, if_neg c_2]
      exact cd_zret hx hb hr hlocks hW hS d_Model_isFar_21 (by decide) ⟨by rw [hf], rfl, rfl, rfl⟩ (Nat.le_of_ble_eq_true rfl) (Nat.le_of_ble_eq_true rfl)

def f_Model_answer (w : cm_W) (x : Int32) (y : Int64) : Int32 × cm_W := if x < 0 then ((f_Model_refuse (u_mc w 0 0) (-1)).1, (f_Model_refuse (u_mc w 0 0) (-1)).2) else if x ≤ 23 then (if (f_Model_isFar y) = 0 then (1, (u_mc (u_ml (u_mc w 0 0) 4 x.toNatClampNeg y) 8 ((x_mc w 8) + 1))) else ((f_Model_refuse (u_mc w 0 0) (-2)).1, (f_Model_refuse (u_mc w 0 0) (-2)).2)) else ((f_Model_refuse (u_mc w 0 0) (-1)).1, (f_Model_refuse (u_mc w 0 0) (-1)).2)
set_option maxHeartbeats 4000000 in
set_option maxRecDepth 100000 in
theorem c_Model_answer (l : Launch) (D : va_G) (dA : Nat → ClassId) (b0 : Nat) (w : cm_W) (x : Int32) (y : Int64) : cd_Ct l D (cx_tys dA) b0 y_Model_answer (.code y_Model_answer b_Model_answer 4 (some .int) :: cd_WA) { frames := 1, cells := 0, slots := 0, locals := 21 } [.ref (m_ad w 9 0), .int x, .long y] (cm_dm w) (m_ad w) (cm_ce dA w) (cm_R dA (some (.int (f_Model_answer w x y).1)) (f_Model_answer w x y).2) 0 0 := by
  refine cd_Ct.of b_Model_answer 4 (some .int) (by decide) rfl ?_
  intro p e s m below meth c hx hb hr hml hown hlocks hnm hA hE hb0 hW hS ls hl
  have hK := hE.1
  have hl : lv_has ls 4 [(0, .ref (m_ad w 9 0)), (1, .int x), (2, .long y)] := hl
  refine lv_aload_n hx hb d_Model_answer_0 rfl (lv_at hl 0 rfl) ?_
  refine lv_iconst (v := 0) hx hb d_Model_answer_1 (by decide) ?_
  refine cd_put (ci := 4) (C := R_Model) (T := F_Model) (N := 20) (v := .int 0) hx hb hA i_Model t_Model t_Model_ok n_Model hown hK hW hS 9 0 rfl rfl rfl 0 (by decide) mw_172 rfl rfl rfl rfl (Nat.le_of_ble_eq_true rfl) d_Model_answer_2 (cm_ce dA (u_mc w 0 0)) rfl (kp_mc dA w 0 0) (fun H locs hW hS => ?_)
  have hW : cm_Wo D dA b0 (u_mc w 0 0) H := to_mc hW
  refine lv_iload_n hx hb d_Model_answer_5 rfl (lv_at hl 1 rfl) ?_
  refine lv_if_lt (tgt := 15) hx hb d_Model_answer_6 (by decide) (fun c_1 => ?_) (fun c_1 => ?_)
  · skip
    refine lv_aload_n hx hb d_Model_answer_15 rfl (lv_at hl 0 rfl) ?_
    refine lv_iconst (v := (-1)) hx hb d_Model_answer_16 (by decide) ?_
    refine cm_cV (w0 := (f_Model_refuse (u_mc w 0 0) (-1)).2) (x0 := .int ((f_Model_refuse (u_mc w 0 0) (-1)).1)) (rest := []) (n := 1) ⟨hx, hb, hml, hown, hA⟩ (cd_GA mw_173) hE hb0 hW hS 9 0 rfl rfl rfl (c_Model_refuse l D dA b0 (u_mc w 0 0) (-1)) mw_177 mw_175 mw_176 mw_174 (by decide +kernel) rfl rfl ⟨by decide, by decide⟩ rfl hl.1 rfl (Nat.le_of_ble_eq_true rfl) d_Model_answer_17 ⟨by decide, by decide⟩ (fun H locs hW hS => ?_)
    have hf : f_Model_answer w x y = ((f_Model_refuse (u_mc w 0 0) (-1)).1, (f_Model_refuse (u_mc w 0 0) (-1)).2) := by
      simp only [f_Model_answer, if_pos c_1]
    exact cd_iret hx hb hr hlocks hW hS d_Model_answer_20 ⟨by rw [hf], by rw [hf], by rw [hf], by rw [hf]⟩ (Nat.le_of_ble_eq_true rfl) (Nat.le_of_ble_eq_true rfl)
  · skip
    refine lv_iload_n hx hb d_Model_answer_9 rfl (lv_at hl 1 rfl) ?_
    refine lv_bipush (v := 23) hx hb d_Model_answer_10 (by decide) ?_
    refine lv_icmp_le (tgt := 21) hx hb d_Model_answer_12 (by decide) (fun c_2 => ?_) (fun c_2 => ?_)
    · skip
      refine lv_lload_n hx hb d_Model_answer_21 rfl (lv_at hl 2 rfl) ?_
      refine cm_cS (w0 := (u_mc w 0 0)) (x0 := .int (f_Model_isFar y)) (rest := []) (n := 1) ⟨hx, hb, hml, hown, hA⟩ (cd_GA mw_178) hE hb0 hW hS (c_Model_isFar l D dA b0 (u_mc w 0 0) y) mw_180 mw_179 mw_174 (by decide +kernel) rfl rfl ⟨by decide, by decide⟩ rfl hl.1 rfl (Nat.le_of_ble_eq_true rfl) d_Model_answer_22 ⟨by decide, by decide⟩ (fun H locs hW hS => ?_)
      refine lv_if_eq (tgt := 35) hx hb d_Model_answer_25 (by decide) (fun c_3 => ?_) (fun c_3 => ?_)
      · skip
        refine lv_aload_n hx hb d_Model_answer_35 rfl (lv_at hl 0 rfl) ?_
        refine cd_get (ci := 4) (C := R_Model) (T := F_Model) (N := 20) (v := .ref (m_ad w 10 4)) hx hb hA i_Model hown hK hW 9 0 rfl rfl rfl 5 (by decide) mw_181 rfl rfl d_Model_answer_36 ?_
        refine lv_iload_n hx hb d_Model_answer_39 rfl (lv_at hl 1 rfl) ?_
        refine lv_lload_n hx hb d_Model_answer_40 rfl (lv_at hl 2 rfl) ?_
        refine cd_last hx hb hK hW hS 10 4 (show (4 : Nat) < 11 from by decide) 1 rfl rfl (cm_in23' c_1 c_2) d_Model_answer_41 (cm_ce dA (u_ml (u_mc w 0 0) 4 x.toNatClampNeg y)) rfl (kp_ml dA (u_mc w 0 0) 4 x.toNatClampNeg y) (fun H locs hW hS => ?_)
        have hW : cm_Wo D dA b0 (u_ml (u_mc w 0 0) 4 x.toNatClampNeg y) H := to_ml hW
        refine lv_aload_n hx hb d_Model_answer_42 rfl (lv_at hl 0 rfl) ?_
        refine lv_dup hx hb d_Model_answer_43 rfl ?_
        refine cd_get (ci := 4) (C := R_Model) (T := F_Model) (N := 20) (v := .int (x_mc w 8)) hx hb hA i_Model hown hK hW 9 0 rfl rfl rfl 19 (by decide) mw_182 rfl rfl d_Model_answer_44 ?_
        refine lv_iconst (v := 1) hx hb d_Model_answer_47 (by decide) ?_
        refine lv_iadd hx hb d_Model_answer_48 ?_
        refine cd_put (ci := 4) (C := R_Model) (T := F_Model) (N := 20) (v := .int ((x_mc w 8) + 1)) hx hb hA i_Model t_Model t_Model_ok n_Model hown hK hW hS 9 0 rfl rfl rfl 19 (by decide) mw_182 rfl rfl rfl rfl (Nat.le_of_ble_eq_true rfl) d_Model_answer_49 (cm_ce dA (u_mc (u_ml (u_mc w 0 0) 4 x.toNatClampNeg y) 8 ((x_mc w 8) + 1))) rfl (kp_mc dA (u_ml (u_mc w 0 0) 4 x.toNatClampNeg y) 8 ((x_mc w 8) + 1)) (fun H locs hW hS => ?_)
        have hW : cm_Wo D dA b0 (u_mc (u_ml (u_mc w 0 0) 4 x.toNatClampNeg y) 8 ((x_mc w 8) + 1)) H := to_mc hW
        refine lv_iconst (v := 1) hx hb d_Model_answer_52 (by decide) ?_
        have hf : f_Model_answer w x y = (1, (u_mc (u_ml (u_mc w 0 0) 4 x.toNatClampNeg y) 8 ((x_mc w 8) + 1))) := by
          simp only [f_Model_answer, if_neg c_1, if_pos c_2, if_pos c_3]
        exact cd_iret hx hb hr hlocks hW hS d_Model_answer_53 ⟨by rw [hf], by rw [hf], by rw [hf], by rw [hf]⟩ (Nat.le_of_ble_eq_true rfl) (Nat.le_of_ble_eq_true rfl)
      · skip
        refine lv_aload_n hx hb d_Model_answer_28 rfl (lv_at hl 0 rfl) ?_
        refine lv_bipush (v := (-2)) hx hb d_Model_answer_29 (by decide) ?_
        refine cm_cV (w0 := (f_Model_refuse (u_mc w 0 0) (-2)).2) (x0 := .int ((f_Model_refuse (u_mc w 0 0) (-2)).1)) (rest := []) (n := 1) ⟨hx, hb, hml, hown, hA⟩ (cd_GA mw_173) hE hb0 hW hS 9 0 rfl rfl rfl (c_Model_refuse l D dA b0 (u_mc w 0 0) (-2)) mw_177 mw_175 mw_176 mw_174 (by decide +kernel) rfl rfl ⟨by decide, by decide⟩ rfl hl.1 rfl (Nat.le_of_ble_eq_true rfl) d_Model_answer_31 ⟨by decide, by decide⟩ (fun H locs hW hS => ?_)
        have hf : f_Model_answer w x y = ((f_Model_refuse (u_mc w 0 0) (-2)).1, (f_Model_refuse (u_mc w 0 0) (-2)).2) := by
          simp only [f_Model_answer, if_neg c_1, if_pos c_2, if_neg c_3]
        exact cd_iret hx hb hr hlocks hW hS d_Model_answer_34 ⟨by rw [hf], by rw [hf], by rw [hf], by rw [hf]⟩ (Nat.le_of_ble_eq_true rfl) (Nat.le_of_ble_eq_true rfl)
    · skip
      refine lv_aload_n hx hb d_Model_answer_15 rfl (lv_at hl 0 rfl) ?_
      refine lv_iconst (v := (-1)) hx hb d_Model_answer_16 (by decide) ?_
      refine cm_cV (w0 := (f_Model_refuse (u_mc w 0 0) (-1)).2) (x0 := .int ((f_Model_refuse (u_mc w 0 0) (-1)).1)) (rest := []) (n := 1) ⟨hx, hb, hml, hown, hA⟩ (cd_GA mw_173) hE hb0 hW hS 9 0 rfl rfl rfl (c_Model_refuse l D dA b0 (u_mc w 0 0) (-1)) mw_177 mw_175 mw_176 mw_174 (by decide +kernel) rfl rfl ⟨by decide, by decide⟩ rfl hl.1 rfl (Nat.le_of_ble_eq_true rfl) d_Model_answer_17 ⟨by decide, by decide⟩ (fun H locs hW hS => ?_)
      have hf : f_Model_answer w x y = ((f_Model_refuse (u_mc w 0 0) (-1)).1, (f_Model_refuse (u_mc w 0 0) (-1)).2) := by
        simp only [f_Model_answer, if_neg c_1, if_neg c_2]
      exact cd_iret hx hb hr hlocks hW hS d_Model_answer_20 ⟨by rw [hf], by rw [hf], by rw [hf], by rw [hf]⟩ (Nat.le_of_ble_eq_true rfl) (Nat.le_of_ble_eq_true rfl)

def f_Model_fails (w : cm_W) (x : Int32) (y : Int32) : Int32 × cm_W := if x < 0 then ((f_Model_refuse (u_mc w 0 0) (-1)).1, (f_Model_refuse (u_mc w 0 0) (-1)).2) else if x ≤ 23 then (if y < 0 then ((f_Model_refuse (u_mc w 0 0) (-2)).1, (f_Model_refuse (u_mc w 0 0) (-2)).2) else if y ≤ 4 then ((x_mi w 5 x.toNatClampNeg), (u_mc (u_mi (u_mc w 0 0) 5 x.toNatClampNeg y) 8 ((x_mc w 8) + 1))) else ((f_Model_refuse (u_mc w 0 0) (-2)).1, (f_Model_refuse (u_mc w 0 0) (-2)).2)) else ((f_Model_refuse (u_mc w 0 0) (-1)).1, (f_Model_refuse (u_mc w 0 0) (-1)).2)
set_option maxHeartbeats 4000000 in
set_option maxRecDepth 100000 in
theorem c_Model_fails (l : Launch) (D : va_G) (dA : Nat → ClassId) (b0 : Nat) (w : cm_W) (x : Int32) (y : Int32) : cd_Ct l D (cx_tys dA) b0 y_Model_fails (.code y_Model_fails b_Model_fails 4 (some .int) :: cd_WA) { frames := 1, cells := 0, slots := 0, locals := 21 } [.ref (m_ad w 9 0), .int x, .int y] (cm_dm w) (m_ad w) (cm_ce dA w) (cm_R dA (some (.int (f_Model_fails w x y).1)) (f_Model_fails w x y).2) 0 0 := by
  refine cd_Ct.of b_Model_fails 4 (some .int) (by decide) rfl ?_
  intro p e s m below meth c hx hb hr hml hown hlocks hnm hA hE hb0 hW hS ls hl
  have hK := hE.1
  have hl : lv_has ls 4 [(0, .ref (m_ad w 9 0)), (1, .int x), (2, .int y)] := hl
  refine lv_aload_n hx hb d_Model_fails_0 rfl (lv_at hl 0 rfl) ?_
  refine lv_iconst (v := 0) hx hb d_Model_fails_1 (by decide) ?_
  refine cd_put (ci := 4) (C := R_Model) (T := F_Model) (N := 20) (v := .int 0) hx hb hA i_Model t_Model t_Model_ok n_Model hown hK hW hS 9 0 rfl rfl rfl 0 (by decide) mw_172 rfl rfl rfl rfl (Nat.le_of_ble_eq_true rfl) d_Model_fails_2 (cm_ce dA (u_mc w 0 0)) rfl (kp_mc dA w 0 0) (fun H locs hW hS => ?_)
  have hW : cm_Wo D dA b0 (u_mc w 0 0) H := to_mc hW
  refine lv_iload_n hx hb d_Model_fails_5 rfl (lv_at hl 1 rfl) ?_
  refine lv_if_lt (tgt := 15) hx hb d_Model_fails_6 (by decide) (fun c_1 => ?_) (fun c_1 => ?_)
  · skip
    refine lv_aload_n hx hb d_Model_fails_15 rfl (lv_at hl 0 rfl) ?_
    refine lv_iconst (v := (-1)) hx hb d_Model_fails_16 (by decide) ?_
    refine cm_cV (w0 := (f_Model_refuse (u_mc w 0 0) (-1)).2) (x0 := .int ((f_Model_refuse (u_mc w 0 0) (-1)).1)) (rest := []) (n := 1) ⟨hx, hb, hml, hown, hA⟩ (cd_GA mw_173) hE hb0 hW hS 9 0 rfl rfl rfl (c_Model_refuse l D dA b0 (u_mc w 0 0) (-1)) mw_177 mw_175 mw_176 mw_174 (by decide +kernel) rfl rfl ⟨by decide, by decide⟩ rfl hl.1 rfl (Nat.le_of_ble_eq_true rfl) d_Model_fails_17 ⟨by decide, by decide⟩ (fun H locs hW hS => ?_)
    have hf : f_Model_fails w x y = ((f_Model_refuse (u_mc w 0 0) (-1)).1, (f_Model_refuse (u_mc w 0 0) (-1)).2) := by
      simp only [f_Model_fails, if_pos c_1]
    exact cd_iret hx hb hr hlocks hW hS d_Model_fails_20 ⟨by rw [hf], by rw [hf], by rw [hf], by rw [hf]⟩ (Nat.le_of_ble_eq_true rfl) (Nat.le_of_ble_eq_true rfl)
  · skip
    refine lv_iload_n hx hb d_Model_fails_9 rfl (lv_at hl 1 rfl) ?_
    refine lv_bipush (v := 23) hx hb d_Model_fails_10 (by decide) ?_
    refine lv_icmp_le (tgt := 21) hx hb d_Model_fails_12 (by decide) (fun c_2 => ?_) (fun c_2 => ?_)
    · skip
      refine lv_iload_n hx hb d_Model_fails_21 rfl (lv_at hl 2 rfl) ?_
      refine lv_if_lt (tgt := 30) hx hb d_Model_fails_22 (by decide) (fun c_3 => ?_) (fun c_3 => ?_)
      · skip
        refine lv_aload_n hx hb d_Model_fails_30 rfl (lv_at hl 0 rfl) ?_
        refine lv_bipush (v := (-2)) hx hb d_Model_fails_31 (by decide) ?_
        refine cm_cV (w0 := (f_Model_refuse (u_mc w 0 0) (-2)).2) (x0 := .int ((f_Model_refuse (u_mc w 0 0) (-2)).1)) (rest := []) (n := 1) ⟨hx, hb, hml, hown, hA⟩ (cd_GA mw_173) hE hb0 hW hS 9 0 rfl rfl rfl (c_Model_refuse l D dA b0 (u_mc w 0 0) (-2)) mw_177 mw_175 mw_176 mw_174 (by decide +kernel) rfl rfl ⟨by decide, by decide⟩ rfl hl.1 rfl (Nat.le_of_ble_eq_true rfl) d_Model_fails_33 ⟨by decide, by decide⟩ (fun H locs hW hS => ?_)
        have hf : f_Model_fails w x y = ((f_Model_refuse (u_mc w 0 0) (-2)).1, (f_Model_refuse (u_mc w 0 0) (-2)).2) := by
          simp only [f_Model_fails, if_neg c_1, if_pos c_2, if_pos c_3]
        exact cd_iret hx hb hr hlocks hW hS d_Model_fails_36 ⟨by rw [hf], by rw [hf], by rw [hf], by rw [hf]⟩ (Nat.le_of_ble_eq_true rfl) (Nat.le_of_ble_eq_true rfl)
      · skip
        refine lv_iload_n hx hb d_Model_fails_25 rfl (lv_at hl 2 rfl) ?_
        refine lv_iconst (v := 4) hx hb d_Model_fails_26 (by decide) ?_
        refine lv_icmp_le (tgt := 37) hx hb d_Model_fails_27 (by decide) (fun c_4 => ?_) (fun c_4 => ?_)
        · skip
          refine lv_aload_n hx hb d_Model_fails_37 rfl (lv_at hl 0 rfl) ?_
          refine cd_get (ci := 4) (C := R_Model) (T := F_Model) (N := 20) (v := .ref (m_ad w 10 5)) hx hb hA i_Model hown hK hW 9 0 rfl rfl rfl 6 (by decide) mw_183 rfl rfl d_Model_fails_38 ?_
          refine lv_iload_n hx hb d_Model_fails_41 rfl (lv_at hl 1 rfl) ?_
          refine cd_iald hx hb hK hW 10 5 (show (5 : Nat) < 11 from by decide) 0 rfl rfl (cm_in23' c_1 c_2) d_Model_fails_42 ?_
          refine lv_istore_n (lv' := [(3, .int (x_mi w 5 x.toNatClampNeg)), (0, .ref (m_ad w 9 0)), (1, .int x), (2, .int y)]) hx hb d_Model_fails_43 rfl hl (by decide) rfl (fun ls hl => ?_)
          refine lv_aload_n hx hb d_Model_fails_44 rfl (lv_at hl 1 rfl) ?_
          refine cd_get (ci := 4) (C := R_Model) (T := F_Model) (N := 20) (v := .ref (m_ad w 10 5)) hx hb hA i_Model hown hK hW 9 0 rfl rfl rfl 6 (by decide) mw_183 rfl rfl d_Model_fails_45 ?_
          refine lv_iload_n hx hb d_Model_fails_48 rfl (lv_at hl 2 rfl) ?_
          refine lv_iload_n hx hb d_Model_fails_49 rfl (lv_at hl 3 rfl) ?_
          refine cd_iast hx hb hK hW hS 10 5 (show (5 : Nat) < 11 from by decide) 0 rfl rfl (cm_in23' c_1 c_2) d_Model_fails_50 (cm_ce dA (u_mi (u_mc w 0 0) 5 x.toNatClampNeg y)) rfl (kp_mi dA (u_mc w 0 0) 5 x.toNatClampNeg y) (fun H locs hW hS => ?_)
          have hW : cm_Wo D dA b0 (u_mi (u_mc w 0 0) 5 x.toNatClampNeg y) H := to_mi hW
          refine lv_aload_n hx hb d_Model_fails_51 rfl (lv_at hl 1 rfl) ?_
          refine lv_dup hx hb d_Model_fails_52 rfl ?_
          refine cd_get (ci := 4) (C := R_Model) (T := F_Model) (N := 20) (v := .int (x_mc w 8)) hx hb hA i_Model hown hK hW 9 0 rfl rfl rfl 19 (by decide) mw_182 rfl rfl d_Model_fails_53 ?_
          refine lv_iconst (v := 1) hx hb d_Model_fails_56 (by decide) ?_
          refine lv_iadd hx hb d_Model_fails_57 ?_
          refine cd_put (ci := 4) (C := R_Model) (T := F_Model) (N := 20) (v := .int ((x_mc w 8) + 1)) hx hb hA i_Model t_Model t_Model_ok n_Model hown hK hW hS 9 0 rfl rfl rfl 19 (by decide) mw_182 rfl rfl rfl rfl (Nat.le_of_ble_eq_true rfl) d_Model_fails_58 (cm_ce dA (u_mc (u_mi (u_mc w 0 0) 5 x.toNatClampNeg y) 8 ((x_mc w 8) + 1))) rfl (kp_mc dA (u_mi (u_mc w 0 0) 5 x.toNatClampNeg y) 8 ((x_mc w 8) + 1)) (fun H locs hW hS => ?_)
          have hW : cm_Wo D dA b0 (u_mc (u_mi (u_mc w 0 0) 5 x.toNatClampNeg y) 8 ((x_mc w 8) + 1)) H := to_mc hW
          refine lv_iload_n hx hb d_Model_fails_61 rfl (lv_at hl 0 rfl) ?_
          have hf : f_Model_fails w x y = ((x_mi w 5 x.toNatClampNeg), (u_mc (u_mi (u_mc w 0 0) 5 x.toNatClampNeg y) 8 ((x_mc w 8) + 1))) := by
            simp only [f_Model_fails, if_neg c_1, if_pos c_2, if_neg c_3, if_pos c_4]
          exact cd_iret hx hb hr hlocks hW hS d_Model_fails_62 ⟨by rw [hf], by rw [hf], by rw [hf], by rw [hf]⟩ (Nat.le_of_ble_eq_true rfl) (Nat.le_of_ble_eq_true rfl)
        · skip
          refine lv_aload_n hx hb d_Model_fails_30 rfl (lv_at hl 0 rfl) ?_
          refine lv_bipush (v := (-2)) hx hb d_Model_fails_31 (by decide) ?_
          refine cm_cV (w0 := (f_Model_refuse (u_mc w 0 0) (-2)).2) (x0 := .int ((f_Model_refuse (u_mc w 0 0) (-2)).1)) (rest := []) (n := 1) ⟨hx, hb, hml, hown, hA⟩ (cd_GA mw_173) hE hb0 hW hS 9 0 rfl rfl rfl (c_Model_refuse l D dA b0 (u_mc w 0 0) (-2)) mw_177 mw_175 mw_176 mw_174 (by decide +kernel) rfl rfl ⟨by decide, by decide⟩ rfl hl.1 rfl (Nat.le_of_ble_eq_true rfl) d_Model_fails_33 ⟨by decide, by decide⟩ (fun H locs hW hS => ?_)
          have hf : f_Model_fails w x y = ((f_Model_refuse (u_mc w 0 0) (-2)).1, (f_Model_refuse (u_mc w 0 0) (-2)).2) := by
            simp only [f_Model_fails, if_neg c_1, if_pos c_2, if_neg c_3, if_neg c_4]
          exact cd_iret hx hb hr hlocks hW hS d_Model_fails_36 ⟨by rw [hf], by rw [hf], by rw [hf], by rw [hf]⟩ (Nat.le_of_ble_eq_true rfl) (Nat.le_of_ble_eq_true rfl)
    · skip
      refine lv_aload_n hx hb d_Model_fails_15 rfl (lv_at hl 0 rfl) ?_
      refine lv_iconst (v := (-1)) hx hb d_Model_fails_16 (by decide) ?_
      refine cm_cV (w0 := (f_Model_refuse (u_mc w 0 0) (-1)).2) (x0 := .int ((f_Model_refuse (u_mc w 0 0) (-1)).1)) (rest := []) (n := 1) ⟨hx, hb, hml, hown, hA⟩ (cd_GA mw_173) hE hb0 hW hS 9 0 rfl rfl rfl (c_Model_refuse l D dA b0 (u_mc w 0 0) (-1)) mw_177 mw_175 mw_176 mw_174 (by decide +kernel) rfl rfl ⟨by decide, by decide⟩ rfl hl.1 rfl (Nat.le_of_ble_eq_true rfl) d_Model_fails_17 ⟨by decide, by decide⟩ (fun H locs hW hS => ?_)
      have hf : f_Model_fails w x y = ((f_Model_refuse (u_mc w 0 0) (-1)).1, (f_Model_refuse (u_mc w 0 0) (-1)).2) := by
        simp only [f_Model_fails, if_neg c_1, if_neg c_2]
      exact cd_iret hx hb hr hlocks hW hS d_Model_fails_20 ⟨by rw [hf], by rw [hf], by rw [hf], by rw [hf]⟩ (Nat.le_of_ble_eq_true rfl) (Nat.le_of_ble_eq_true rfl)

def f_Model_told (w : cm_W) (x : Int32) : Int32 × cm_W := if x = 0 then ((x_mc w 1), (u_mc w 0 0)) else if x = 1 then ((x_mc w 2), (u_mc w 0 0)) else if x = 2 then ((x_mc w 3), (u_mc w 0 0)) else if x = 3 then ((x_mc w 4), (u_mc w 0 0)) else if x = 4 then ((x_mc w 5), (u_mc w 0 0)) else if x = 5 then ((x_mc w 6), (u_mc w 0 0)) else if x = 6 then ((x_mc w 7), (u_mc w 0 0)) else if x = 7 then ((x_mc w 8), (u_mc w 0 0)) else if x = 8 then ((x_mi w 3 0), (u_mc w 0 0)) else if x = 9 then ((x_mi w 3 1), (u_mc w 0 0)) else if x = 10 then ((x_mi w 3 2), (u_mc w 0 0)) else ((-2), (u_mc w 0 0))
set_option maxHeartbeats 4000000 in
set_option maxRecDepth 100000 in
theorem c_Model_told (l : Launch) (D : va_G) (dA : Nat → ClassId) (b0 : Nat) (w : cm_W) (x : Int32) : cd_Ct l D (cx_tys dA) b0 y_Model_told (.code y_Model_told b_Model_told 2 (some .int) :: cd_WA) { frames := 0, cells := 0, slots := 0, locals := 0 } [.ref (m_ad w 9 0), .int x] (cm_dm w) (m_ad w) (cm_ce dA w) (cm_R dA (some (.int (f_Model_told w x).1)) (f_Model_told w x).2) 0 0 := by
  refine cd_Ct.of b_Model_told 2 (some .int) (by decide) rfl ?_
  intro p e s m below meth c hx hb hr hml hown hlocks hnm hA hE hb0 hW hS ls hl
  have hK := hE.1
  have hl : lv_has ls 2 [(0, .ref (m_ad w 9 0)), (1, .int x)] := hl
  refine lv_aload_n hx hb d_Model_told_0 rfl (lv_at hl 0 rfl) ?_
  refine lv_iconst (v := 0) hx hb d_Model_told_1 (by decide) ?_
  refine cd_put (ci := 4) (C := R_Model) (T := F_Model) (N := 20) (v := .int 0) hx hb hA i_Model t_Model t_Model_ok n_Model hown hK hW hS 9 0 rfl rfl rfl 0 (by decide) mw_172 rfl rfl rfl rfl (Nat.le_of_ble_eq_true rfl) d_Model_told_2 (cm_ce dA (u_mc w 0 0)) rfl (kp_mc dA w 0 0) (fun H locs hW hS => ?_)
  have hW : cm_Wo D dA b0 (u_mc w 0 0) H := to_mc hW
  refine lv_iload_n hx hb d_Model_told_5 rfl (lv_at hl 1 rfl) ?_
  refine lv_topi (fun z_1 ez_1 => ?_)
  by_cases h_2 : z_1 = 0
  · skip
    subst h_2
    have c_3 : x = 0 := ez_1.symm
    refine lv_tableIn (tgt := 64) (off := 58) hx hb d_Model_told_6 (by decide) (by decide) (by decide) (by decide) ?_
    refine lv_aload_n hx hb d_Model_told_64 rfl (lv_at hl 0 rfl) ?_
    refine cd_get (ci := 4) (C := R_Model) (T := F_Model) (N := 20) (v := .int (x_mc w 1)) hx hb hA i_Model hown hK hW 9 0 rfl rfl rfl 12 (by decide) mw_169 rfl rfl d_Model_told_65 ?_
    have hf : f_Model_told w x = ((x_mc w 1), (u_mc w 0 0)) := by
      simp only [f_Model_told, if_pos c_3]
    exact cd_iret hx hb hr hlocks hW hS d_Model_told_68 ⟨by rw [hf], by rw [hf], by rw [hf], by rw [hf]⟩ (Nat.le_of_ble_eq_true rfl) (Nat.le_of_ble_eq_true rfl)
  · skip
    have c_4 : ¬ x = 0 := fun q => h_2 (ez_1.trans q)
    by_cases h_5 : z_1 = 1
    · skip
      subst h_5
      have c_6 : x = 1 := ez_1.symm
      refine lv_tableIn (tgt := 69) (off := 63) hx hb d_Model_told_6 (by decide) (by decide) (by decide) (by decide) ?_
      refine lv_aload_n hx hb d_Model_told_69 rfl (lv_at hl 0 rfl) ?_
      refine cd_get (ci := 4) (C := R_Model) (T := F_Model) (N := 20) (v := .int (x_mc w 2)) hx hb hA i_Model hown hK hW 9 0 rfl rfl rfl 13 (by decide) mw_184 rfl rfl d_Model_told_70 ?_
      have hf : f_Model_told w x = ((x_mc w 2), (u_mc w 0 0)) := by
        simp only [f_Model_told, if_neg c_4, if_pos c_6]
      exact cd_iret hx hb hr hlocks hW hS d_Model_told_73 ⟨by rw [hf], by rw [hf], by rw [hf], by rw [hf]⟩ (Nat.le_of_ble_eq_true rfl) (Nat.le_of_ble_eq_true rfl)
    · skip
      have c_7 : ¬ x = 1 := fun q => h_5 (ez_1.trans q)
      by_cases h_8 : z_1 = 2
      · skip
        subst h_8
        have c_9 : x = 2 := ez_1.symm
        refine lv_tableIn (tgt := 74) (off := 68) hx hb d_Model_told_6 (by decide) (by decide) (by decide) (by decide) ?_
        refine lv_aload_n hx hb d_Model_told_74 rfl (lv_at hl 0 rfl) ?_
        refine cd_get (ci := 4) (C := R_Model) (T := F_Model) (N := 20) (v := .int (x_mc w 3)) hx hb hA i_Model hown hK hW 9 0 rfl rfl rfl 14 (by decide) mw_185 rfl rfl d_Model_told_75 ?_
        have hf : f_Model_told w x = ((x_mc w 3), (u_mc w 0 0)) := by
          simp only [f_Model_told, if_neg c_4, if_neg c_7, if_pos c_9]
        exact cd_iret hx hb hr hlocks hW hS d_Model_told_78 ⟨by rw [hf], by rw [hf], by rw [hf], by rw [hf]⟩ (Nat.le_of_ble_eq_true rfl) (Nat.le_of_ble_eq_true rfl)
      · skip
        have c_10 : ¬ x = 2 := fun q => h_8 (ez_1.trans q)
        by_cases h_11 : z_1 = 3
        · skip
          subst h_11
          have c_12 : x = 3 := ez_1.symm
          refine lv_tableIn (tgt := 79) (off := 73) hx hb d_Model_told_6 (by decide) (by decide) (by decide) (by decide) ?_
          refine lv_aload_n hx hb d_Model_told_79 rfl (lv_at hl 0 rfl) ?_
          refine cd_get (ci := 4) (C := R_Model) (T := F_Model) (N := 20) (v := .int (x_mc w 4)) hx hb hA i_Model hown hK hW 9 0 rfl rfl rfl 15 (by decide) mw_186 rfl rfl d_Model_told_80 ?_
          have hf : f_Model_told w x = ((x_mc w 4), (u_mc w 0 0)) := by
            simp only [f_Model_told, if_neg c_4, if_neg c_7, if_neg c_10, if_pos c_12]
          exact cd_iret hx hb hr hlocks hW hS d_Model_told_83 ⟨by rw [hf], by rw [hf], by rw [hf], by rw [hf]⟩ (Nat.le_of_ble_eq_true rfl) (Nat.le_of_ble_eq_true rfl)
        · skip
          have c_13 : ¬ x = 3 := fun q => h_11 (ez_1.trans q)
          by_cases h_14 : z_1 = 4
          · skip
            subst h_14
            have c_15 : x = 4 := ez_1.symm
            refine lv_tableIn (tgt := 84) (off := 78) hx hb d_Model_told_6 (by decide) (by decide) (by decide) (by decide) ?_
            refine lv_aload_n hx hb d_Model_told_84 rfl (lv_at hl 0 rfl) ?_
            refine cd_get (ci := 4) (C := R_Model) (T := F_Model) (N := 20) (v := .int (x_mc w 5)) hx hb hA i_Model hown hK hW 9 0 rfl rfl rfl 16 (by decide) mw_187 rfl rfl d_Model_told_85 ?_
            have hf : f_Model_told w x = ((x_mc w 5), (u_mc w 0 0)) := by
              simp only [f_Model_told, if_neg c_4, if_neg c_7, if_neg c_10, if_neg c_13, if_pos c_15]
            exact cd_iret hx hb hr hlocks hW hS d_Model_told_88 ⟨by rw [hf], by rw [hf], by rw [hf], by rw [hf]⟩ (Nat.le_of_ble_eq_true rfl) (Nat.le_of_ble_eq_true rfl)
          · skip
            have c_16 : ¬ x = 4 := fun q => h_14 (ez_1.trans q)
            by_cases h_17 : z_1 = 5
            · skip
              subst h_17
              have c_18 : x = 5 := ez_1.symm
              refine lv_tableIn (tgt := 89) (off := 83) hx hb d_Model_told_6 (by decide) (by decide) (by decide) (by decide) ?_
              refine lv_aload_n hx hb d_Model_told_89 rfl (lv_at hl 0 rfl) ?_
              refine cd_get (ci := 4) (C := R_Model) (T := F_Model) (N := 20) (v := .int (x_mc w 6)) hx hb hA i_Model hown hK hW 9 0 rfl rfl rfl 17 (by decide) mw_188 rfl rfl d_Model_told_90 ?_
              have hf : f_Model_told w x = ((x_mc w 6), (u_mc w 0 0)) := by
                simp only [f_Model_told, if_neg c_4, if_neg c_7, if_neg c_10, if_neg c_13, if_neg c_16, if_pos c_18]
              exact cd_iret hx hb hr hlocks hW hS d_Model_told_93 ⟨by rw [hf], by rw [hf], by rw [hf], by rw [hf]⟩ (Nat.le_of_ble_eq_true rfl) (Nat.le_of_ble_eq_true rfl)
            · skip
              have c_19 : ¬ x = 5 := fun q => h_17 (ez_1.trans q)
              by_cases h_20 : z_1 = 6
              · skip
                subst h_20
                have c_21 : x = 6 := ez_1.symm
                refine lv_tableIn (tgt := 94) (off := 88) hx hb d_Model_told_6 (by decide) (by decide) (by decide) (by decide) ?_
                refine lv_aload_n hx hb d_Model_told_94 rfl (lv_at hl 0 rfl) ?_
                refine cd_get (ci := 4) (C := R_Model) (T := F_Model) (N := 20) (v := .int (x_mc w 7)) hx hb hA i_Model hown hK hW 9 0 rfl rfl rfl 18 (by decide) mw_189 rfl rfl d_Model_told_95 ?_
                have hf : f_Model_told w x = ((x_mc w 7), (u_mc w 0 0)) := by
                  simp only [f_Model_told, if_neg c_4, if_neg c_7, if_neg c_10, if_neg c_13, if_neg c_16, if_neg c_19, if_pos c_21]
                exact cd_iret hx hb hr hlocks hW hS d_Model_told_98 ⟨by rw [hf], by rw [hf], by rw [hf], by rw [hf]⟩ (Nat.le_of_ble_eq_true rfl) (Nat.le_of_ble_eq_true rfl)
              · skip
                have c_22 : ¬ x = 6 := fun q => h_20 (ez_1.trans q)
                by_cases h_23 : z_1 = 7
                · skip
                  subst h_23
                  have c_24 : x = 7 := ez_1.symm
                  refine lv_tableIn (tgt := 99) (off := 93) hx hb d_Model_told_6 (by decide) (by decide) (by decide) (by decide) ?_
                  refine lv_aload_n hx hb d_Model_told_99 rfl (lv_at hl 0 rfl) ?_
                  refine cd_get (ci := 4) (C := R_Model) (T := F_Model) (N := 20) (v := .int (x_mc w 8)) hx hb hA i_Model hown hK hW 9 0 rfl rfl rfl 19 (by decide) mw_182 rfl rfl d_Model_told_100 ?_
                  have hf : f_Model_told w x = ((x_mc w 8), (u_mc w 0 0)) := by
                    simp only [f_Model_told, if_neg c_4, if_neg c_7, if_neg c_10, if_neg c_13, if_neg c_16, if_neg c_19, if_neg c_22, if_pos c_24]
                  exact cd_iret hx hb hr hlocks hW hS d_Model_told_103 ⟨by rw [hf], by rw [hf], by rw [hf], by rw [hf]⟩ (Nat.le_of_ble_eq_true rfl) (Nat.le_of_ble_eq_true rfl)
                · skip
                  have c_25 : ¬ x = 7 := fun q => h_23 (ez_1.trans q)
                  by_cases h_26 : z_1 = 8
                  · skip
                    subst h_26
                    have c_27 : x = 8 := ez_1.symm
                    refine lv_tableIn (tgt := 104) (off := 98) hx hb d_Model_told_6 (by decide) (by decide) (by decide) (by decide) ?_
                    refine lv_aload_n hx hb d_Model_told_104 rfl (lv_at hl 0 rfl) ?_
                    refine cd_get (ci := 4) (C := R_Model) (T := F_Model) (N := 20) (v := .ref (m_ad w 10 3)) hx hb hA i_Model hown hK hW 9 0 rfl rfl rfl 4 (by decide) mw_190 rfl rfl d_Model_told_105 ?_
                    refine lv_iconst (v := 0) hx hb d_Model_told_108 (by decide) ?_
                    refine cd_iald hx hb hK hW 10 3 (show (3 : Nat) < 11 from by decide) 0 rfl rfl (vp_in_nI (n := 0) (by decide) (by decide)) d_Model_told_109 ?_
                    rw [show ((0 : Int32)).toNatClampNeg = 0 by decide]
                    have hf : f_Model_told w x = ((x_mi w 3 0), (u_mc w 0 0)) := by
                      simp only [f_Model_told, if_neg c_4, if_neg c_7, if_neg c_10, if_neg c_13, if_neg c_16, if_neg c_19, if_neg c_22, if_neg c_25, if_pos c_27]
                    exact cd_iret hx hb hr hlocks hW hS d_Model_told_110 ⟨by rw [hf], by rw [hf], by rw [hf], by rw [hf]⟩ (Nat.le_of_ble_eq_true rfl) (Nat.le_of_ble_eq_true rfl)
                  · skip
                    have c_28 : ¬ x = 8 := fun q => h_26 (ez_1.trans q)
                    by_cases h_29 : z_1 = 9
                    · skip
                      subst h_29
                      have c_30 : x = 9 := ez_1.symm
                      refine lv_tableIn (tgt := 111) (off := 105) hx hb d_Model_told_6 (by decide) (by decide) (by decide) (by decide) ?_
                      refine lv_aload_n hx hb d_Model_told_111 rfl (lv_at hl 0 rfl) ?_
                      refine cd_get (ci := 4) (C := R_Model) (T := F_Model) (N := 20) (v := .ref (m_ad w 10 3)) hx hb hA i_Model hown hK hW 9 0 rfl rfl rfl 4 (by decide) mw_190 rfl rfl d_Model_told_112 ?_
                      refine lv_iconst (v := 1) hx hb d_Model_told_115 (by decide) ?_
                      refine cd_iald hx hb hK hW 10 3 (show (3 : Nat) < 11 from by decide) 0 rfl rfl (vp_in_nI (n := 1) (by decide) (by decide)) d_Model_told_116 ?_
                      rw [show ((1 : Int32)).toNatClampNeg = 1 by decide]
                      have hf : f_Model_told w x = ((x_mi w 3 1), (u_mc w 0 0)) := by
                        simp only [f_Model_told, if_neg c_4, if_neg c_7, if_neg c_10, if_neg c_13, if_neg c_16, if_neg c_19, if_neg c_22, if_neg c_25, if_neg c_28, if_pos c_30]
                      exact cd_iret hx hb hr hlocks hW hS d_Model_told_117 ⟨by rw [hf], by rw [hf], by rw [hf], by rw [hf]⟩ (Nat.le_of_ble_eq_true rfl) (Nat.le_of_ble_eq_true rfl)
                    · skip
                      have c_31 : ¬ x = 9 := fun q => h_29 (ez_1.trans q)
                      by_cases h_32 : z_1 = 10
                      · skip
                        subst h_32
                        have c_33 : x = 10 := ez_1.symm
                        refine lv_tableIn (tgt := 118) (off := 112) hx hb d_Model_told_6 (by decide) (by decide) (by decide) (by decide) ?_
                        refine lv_aload_n hx hb d_Model_told_118 rfl (lv_at hl 0 rfl) ?_
                        refine cd_get (ci := 4) (C := R_Model) (T := F_Model) (N := 20) (v := .ref (m_ad w 10 3)) hx hb hA i_Model hown hK hW 9 0 rfl rfl rfl 4 (by decide) mw_190 rfl rfl d_Model_told_119 ?_
                        refine lv_iconst (v := 2) hx hb d_Model_told_122 (by decide) ?_
                        refine cd_iald hx hb hK hW 10 3 (show (3 : Nat) < 11 from by decide) 0 rfl rfl (vp_in_nI (n := 2) (by decide) (by decide)) d_Model_told_123 ?_
                        rw [show ((2 : Int32)).toNatClampNeg = 2 by decide]
                        have hf : f_Model_told w x = ((x_mi w 3 2), (u_mc w 0 0)) := by
                          simp only [f_Model_told, if_neg c_4, if_neg c_7, if_neg c_10, if_neg c_13, if_neg c_16, if_neg c_19, if_neg c_22, if_neg c_25, if_neg c_28, if_neg c_31, if_pos c_33]
                        exact cd_iret hx hb hr hlocks hW hS d_Model_told_124 ⟨by rw [hf], by rw [hf], by rw [hf], by rw [hf]⟩ (Nat.le_of_ble_eq_true rfl) (Nat.le_of_ble_eq_true rfl)
                      · skip
                        have c_34 : ¬ x = 10 := fun q => h_32 (ez_1.trans q)
                        refine lv_tableOut (tgt := 125) hx hb d_Model_told_6 (by have g0 := cd_ne 0 0 (by decide) h_2; have g1 := cd_ne 1 1 (by decide) h_5; have g2 := cd_ne 2 2 (by decide) h_8; have g3 := cd_ne 3 3 (by decide) h_11; have g4 := cd_ne 4 4 (by decide) h_14; have g5 := cd_ne 5 5 (by decide) h_17; have g6 := cd_ne 6 6 (by decide) h_20; have g7 := cd_ne 7 7 (by decide) h_23; have g8 := cd_ne 8 8 (by decide) h_26; have g9 := cd_ne 9 9 (by decide) h_29; have g10 := cd_ne 10 10 (by decide) h_32; omega) (by decide) ?_
                        refine lv_bipush (v := (-2)) hx hb d_Model_told_125 (by decide) ?_
                        have hf : f_Model_told w x = ((-2), (u_mc w 0 0)) := by
                          simp only [f_Model_told, if_neg c_4, if_neg c_7, if_neg c_10, if_neg c_13, if_neg c_16, if_neg c_19, if_neg c_22, if_neg c_25, if_neg c_28, if_neg c_31, if_neg c_34]
                        exact cd_iret hx hb hr hlocks hW hS d_Model_told_127 ⟨by rw [hf], by rw [hf], by rw [hf], by rw [hf]⟩ (Nat.le_of_ble_eq_true rfl) (Nat.le_of_ble_eq_true rfl)

def f_la_r (w : cm_W) (kk : Nat) : Nat → Int32
  | 0 => -1
  | n + 1 => if x_mi w 6 (64 * kk + 1 + n) = 0 then f_la_r w kk n else nI (64 * kk + 1 + n)
def f_Model_latest (w : cm_W) (kk : Nat) : Int32 := f_la_r w kk 20
set_option maxHeartbeats 4000000 in
set_option maxRecDepth 100000 in
theorem c_Model_latest (l : Launch) (D : va_G) (dA : Nat → ClassId) (b0 : Nat) (w : cm_W) (kk : Nat) (hk : kk < 6) : cd_Ct l D (cx_tys dA) b0 y_Model_latest (.code y_Model_latest b_Model_latest 4 (some .int) :: cd_WA) { frames := 0, cells := 0, slots := 0, locals := 0 } [.ref (m_ad w 9 0), .int (nI kk)] (cm_dm w) (m_ad w) (cm_ce dA w) (cm_R dA (some (.int (f_Model_latest w kk))) w) 0 0 := by
  refine cd_Ct.of b_Model_latest 4 (some .int) (by decide) rfl ?_
  intro p e s m below meth c hx hb hr hml hown hlocks hnm hA hE hb0 hW hS ls hl
  have hK := hE.1
  have hl : lv_has ls 4 [(0, .ref (m_ad w 9 0)), (1, .int (nI kk))] := hl
  have e1 : 64 * nI kk + 1 = nI (64 * kk + 1 + 0) := by rw [show (64 : Int32) = nI 64 from rfl, pk_mul, nI_1]
  have e2 : 64 * nI kk + 20 = nI (64 * kk + 20) := by rw [show (64 : Int32) = nI 64 from rfl, pk_mul, show (20 : Int32) = nI 20 from rfl, nI_add]
  have loop : ∀ (d n : Nat), 20 = n + d → ∀ (ls : Array Slot) (H : Heap) (locs : List Loc), cm_Wo D dA b0 w H → va_S (cd_A b0) s.heap H locs → lv_has ls 4 [(3, .int (nI (64 * kk + 1 + n))), (2, .int (f_la_r w kk n)), (0, .ref (m_ad w 9 0)), (1, .int (nI kk))] → W p l e { frames := 0, cells := 0, slots := 0, locals := 0 } s m ([.ref (m_ad w 9 0), .int (nI kk)] : List Value).toArray below meth c H locs 0 0 (MQ below (cd_Q D b0 (cm_R dA (some (.int (f_Model_latest w kk))) w)) ([.ref (m_ad w 9 0), .int (nI kk)] : List Value).toArray s 0 0 (cd_A b0)) (F0 m 9 ls []) := by
    intro d
    induction d with
    | zero =>
      intro n hn ls H locs hW hS hl
      have hn : 20 = n := hn
      refine lv_iload_n hx hb d_Model_latest_9 rfl (lv_at hl 0 rfl) ?_
      refine lv_bipush (v := 64) hx hb d_Model_latest_10 (by decide) ?_
      refine lv_iload_n hx hb d_Model_latest_12 rfl (lv_at hl 3 rfl) ?_
      refine lv_imul hx hb d_Model_latest_13 ?_
      refine lv_bipush (v := 20) hx hb d_Model_latest_14 (by decide) ?_
      refine lv_iadd hx hb d_Model_latest_16 ?_
      refine lv_icmp_gt (tgt := 41) hx hb d_Model_latest_17 (by decide) (fun c_1 => ?_) (fun c_1 => ?_)
      · skip
        refine lv_iload_n hx hb d_Model_latest_41 rfl (lv_at hl 1 rfl) ?_
        have hf : f_Model_latest w kk = (f_la_r w kk n) := by
          rw [f_Model_latest, hn]
        exact cd_iret hx hb hr hlocks hW hS d_Model_latest_42 ⟨by rw [hf], rfl, rfl, rfl⟩ (Nat.le_of_ble_eq_true rfl) (Nat.le_of_ble_eq_true rfl)
      · skip
        exact absurd (by rw [e2]; exact nI_lt (by omega) (by omega)) c_1
    | succ d ih =>
      intro n hn ls H locs hW hS hl
      refine lv_iload_n hx hb d_Model_latest_9 rfl (lv_at hl 0 rfl) ?_
      refine lv_bipush (v := 64) hx hb d_Model_latest_10 (by decide) ?_
      refine lv_iload_n hx hb d_Model_latest_12 rfl (lv_at hl 3 rfl) ?_
      refine lv_imul hx hb d_Model_latest_13 ?_
      refine lv_bipush (v := 20) hx hb d_Model_latest_14 (by decide) ?_
      refine lv_iadd hx hb d_Model_latest_16 ?_
      refine lv_icmp_gt (tgt := 41) hx hb d_Model_latest_17 (by decide) (fun c_2 => ?_) (fun c_2 => ?_)
      · skip
        exact absurd c_2 (by rw [e2]; exact nI_nlt (by omega) (by omega))
      · skip
        refine lv_aload_n hx hb d_Model_latest_20 rfl (lv_at hl 2 rfl) ?_
        refine cd_get (ci := 4) (C := R_Model) (T := F_Model) (N := 20) (v := .ref (m_ad w 10 6)) hx hb hA i_Model hown hK hW 9 0 rfl rfl rfl 7 (by decide) mw_191 rfl rfl d_Model_latest_21 ?_
        refine lv_iload_n hx hb d_Model_latest_24 rfl (lv_at hl 0 rfl) ?_
        refine cd_zald hx hb hK hW 10 6 (show (6 : Nat) < 11 from by decide) 4 rfl rfl (vp_in_nI (show 64 * kk + 1 + n < 384 by omega) (by decide)) d_Model_latest_25 ?_
        rw [nI_clamp (show 64 * kk + 1 + n < 2 ^ 31 by omega)]
        refine lv_if_eq (tgt := 33) hx hb d_Model_latest_26 (by decide) (fun c_3 => ?_) (fun c_3 => ?_)
        · skip
          refine lv_iload_n hx hb d_Model_latest_33 rfl (lv_at hl 1 rfl) ?_
          refine lv_istore_n (lv' := [(2, .int (f_la_r w kk n)), (3, .int (nI (64 * kk + 1 + n))), (0, .ref (m_ad w 9 0)), (1, .int (nI kk))]) hx hb d_Model_latest_34 rfl hl (by decide) rfl (fun ls hl => ?_)
          refine lv_iinc (v := (nI (64 * kk + 1 + (n + 1)))) (lv' := [(3, .int (nI (64 * kk + 1 + (n + 1)))), (2, .int (f_la_r w kk n)), (0, .ref (m_ad w 9 0)), (1, .int (nI kk))]) hx hb d_Model_latest_35 hl (k := 1) rfl (by rw [show Int32.ofInt 1 = 1 by decide]; exact nI_1 _) (by decide) rfl (fun ls hl => ?_)
          refine lv_goto (tgt := 9) hx hb d_Model_latest_38 (by decide) ?_
          exact ih (n + 1) (by omega) ls _ _ hW hS (lv_sub hl [0, 1, 2, 3] (by simp only [lv_pick, List.filterMap_cons, List.filterMap_nil, List.getElem?_cons_zero, List.getElem?_cons_succ, f_la_r, if_pos c_3]))
        · skip
          refine lv_iload_n hx hb d_Model_latest_29 rfl (lv_at hl 0 rfl) ?_
          refine lv_goto (tgt := 34) hx hb d_Model_latest_30 (by decide) ?_
          refine lv_istore_n (lv' := [(2, .int (nI (64 * kk + 1 + n))), (3, .int (nI (64 * kk + 1 + n))), (0, .ref (m_ad w 9 0)), (1, .int (nI kk))]) hx hb d_Model_latest_34 rfl hl (by decide) rfl (fun ls hl => ?_)
          refine lv_iinc (v := (nI (64 * kk + 1 + (n + 1)))) (lv' := [(3, .int (nI (64 * kk + 1 + (n + 1)))), (2, .int (nI (64 * kk + 1 + n))), (0, .ref (m_ad w 9 0)), (1, .int (nI kk))]) hx hb d_Model_latest_35 hl (k := 1) rfl (by rw [show Int32.ofInt 1 = 1 by decide]; exact nI_1 _) (by decide) rfl (fun ls hl => ?_)
          refine lv_goto (tgt := 9) hx hb d_Model_latest_38 (by decide) ?_
          exact ih (n + 1) (by omega) ls _ _ hW hS (lv_sub hl [0, 1, 2, 3] (by simp only [lv_pick, List.filterMap_cons, List.filterMap_nil, List.getElem?_cons_zero, List.getElem?_cons_succ, f_la_r, if_neg c_3]))
  refine lv_iconst (v := (-1)) hx hb d_Model_latest_0 (by decide) ?_
  refine lv_istore_n (lv' := [(2, .int (-1)), (0, .ref (m_ad w 9 0)), (1, .int (nI kk))]) hx hb d_Model_latest_1 rfl hl (by decide) rfl (fun ls hl => ?_)
  refine lv_bipush (v := 64) hx hb d_Model_latest_2 (by decide) ?_
  refine lv_iload_n hx hb d_Model_latest_4 rfl (lv_at hl 2 rfl) ?_
  refine lv_imul hx hb d_Model_latest_5 ?_
  refine lv_iconst (v := 1) hx hb d_Model_latest_6 (by decide) ?_
  refine lv_iadd hx hb d_Model_latest_7 ?_
  refine lv_istore_n (lv' := [(3, .int ((64 * (nI kk)) + 1)), (2, .int (-1)), (0, .ref (m_ad w 9 0)), (1, .int (nI kk))]) hx hb d_Model_latest_8 rfl hl (by decide) rfl (fun ls hl => ?_)
  exact loop (20) 0 (by omega) ls _ _ hW hS (lv_sub hl [0, 1, 2, 3] (by simp only [lv_pick, List.filterMap_cons, List.filterMap_nil, List.getElem?_cons_zero, List.getElem?_cons_succ, e1]; rfl))
theorem la_r_in {w : cm_W} {kk : Nat} (hk : kk < 6) : ∀ n, n ≤ 20 → 0 ≤ f_la_r w kk n → vp_in (f_la_r w kk n) 384
  | 0, _, h => absurd h (show ¬ (0 : Int32) ≤ -1 by decide)
  | n + 1, hn, h => by
    unfold f_la_r at h ⊢
    split
    · rename_i q
      rw [if_pos q] at h
      exact la_r_in hk n (by omega) h
    · exact vp_in_nI (by omega) (by decide)
theorem la_in {w : cm_W} {kk : Nat} (hk : kk < 6) (h : 0 ≤ f_Model_latest w kk) : vp_in (f_Model_latest w kk) 384 := la_r_in hk 20 (Nat.le_refl _) h

def f_nu_r (w : cm_W) (kk : Nat) : Nat → Int32
  | 0 => 0
  | n + 1 => f_nu_r w kk n + (if x_mi w 6 (64 * kk + 1 + n) = 0 then 0 else 1)
def f_Model_numbers (w : cm_W) (kk : Nat) : Int32 × cm_W := (f_nu_r w kk 20, u_mc w 0 0)
set_option maxHeartbeats 4000000 in
set_option maxRecDepth 100000 in
theorem c_Model_numbers (l : Launch) (D : va_G) (dA : Nat → ClassId) (b0 : Nat) (w : cm_W) (kk : Nat) (hk : kk < 6) : cd_Ct l D (cx_tys dA) b0 y_Model_numbers (.code y_Model_numbers b_Model_numbers 4 (some .int) :: cd_WA) { frames := 0, cells := 0, slots := 0, locals := 0 } [.ref (m_ad w 9 0), .int (nI kk)] (cm_dm w) (m_ad w) (cm_ce dA w) (cm_R dA (some (.int (f_Model_numbers w kk).1)) (f_Model_numbers w kk).2) 0 0 := by
  refine cd_Ct.of b_Model_numbers 4 (some .int) (by decide) rfl ?_
  intro p e s m below meth c hx hb hr hml hown hlocks hnm hA hE hb0 hW hS ls hl
  have hK := hE.1
  have hl : lv_has ls 4 [(0, .ref (m_ad w 9 0)), (1, .int (nI kk))] := hl
  have e1 : 64 * nI kk + 1 = nI (64 * kk + 1 + 0) := by rw [show (64 : Int32) = nI 64 from rfl, pk_mul, nI_1]
  have e2 : 64 * nI kk + 20 = nI (64 * kk + 20) := by rw [show (64 : Int32) = nI 64 from rfl, pk_mul, show (20 : Int32) = nI 20 from rfl, nI_add]
  have loop : ∀ (d n : Nat), 20 = n + d → ∀ (ls : Array Slot) (H : Heap) (locs : List Loc), cm_Wo D dA b0 (u_mc w 0 0) H → va_S (cd_A b0) s.heap H locs → lv_has ls 4 [(3, .int (nI (64 * kk + 1 + n))), (2, .int (f_nu_r w kk n)), (0, .ref (m_ad w 9 0)), (1, .int (nI kk))] → W p l e { frames := 0, cells := 0, slots := 0, locals := 0 } s m ([.ref (m_ad w 9 0), .int (nI kk)] : List Value).toArray below meth c H locs 0 0 (MQ below (cd_Q D b0 (cm_R dA (some (.int (f_Model_numbers w kk).1)) (f_Model_numbers w kk).2)) ([.ref (m_ad w 9 0), .int (nI kk)] : List Value).toArray s 0 0 (cd_A b0)) (F0 m 14 ls []) := by
    intro d
    induction d with
    | zero =>
      intro n hn ls H locs hW hS hl
      have hn : 20 = n := hn
      refine lv_iload_n hx hb d_Model_numbers_14 rfl (lv_at hl 0 rfl) ?_
      refine lv_bipush (v := 64) hx hb d_Model_numbers_15 (by decide) ?_
      refine lv_iload_n hx hb d_Model_numbers_17 rfl (lv_at hl 3 rfl) ?_
      refine lv_imul hx hb d_Model_numbers_18 ?_
      refine lv_bipush (v := 20) hx hb d_Model_numbers_19 (by decide) ?_
      refine lv_iadd hx hb d_Model_numbers_21 ?_
      refine lv_icmp_gt (tgt := 58) hx hb d_Model_numbers_22 (by decide) (fun c_1 => ?_) (fun c_1 => ?_)
      · skip
        refine lv_iload_n hx hb d_Model_numbers_58 rfl (lv_at hl 1 rfl) ?_
        have hf : f_Model_numbers w kk = ((f_nu_r w kk n), (u_mc w 0 0)) := by
          rw [f_Model_numbers, hn]
        exact cd_iret hx hb hr hlocks hW hS d_Model_numbers_59 ⟨by rw [hf], by rw [hf], by rw [hf], by rw [hf]⟩ (Nat.le_of_ble_eq_true rfl) (Nat.le_of_ble_eq_true rfl)
      · skip
        exact absurd (by rw [e2]; exact nI_lt (by omega) (by omega)) c_1
    | succ d ih =>
      intro n hn ls H locs hW hS hl
      refine lv_iload_n hx hb d_Model_numbers_14 rfl (lv_at hl 0 rfl) ?_
      refine lv_bipush (v := 64) hx hb d_Model_numbers_15 (by decide) ?_
      refine lv_iload_n hx hb d_Model_numbers_17 rfl (lv_at hl 3 rfl) ?_
      refine lv_imul hx hb d_Model_numbers_18 ?_
      refine lv_bipush (v := 20) hx hb d_Model_numbers_19 (by decide) ?_
      refine lv_iadd hx hb d_Model_numbers_21 ?_
      refine lv_icmp_gt (tgt := 58) hx hb d_Model_numbers_22 (by decide) (fun c_2 => ?_) (fun c_2 => ?_)
      · skip
        exact absurd c_2 (by rw [e2]; exact nI_nlt (by omega) (by omega))
      · skip
        refine lv_iload_n hx hb d_Model_numbers_25 rfl (lv_at hl 3 rfl) ?_
        refine lv_if_lt (tgt := 58) hx hb d_Model_numbers_26 (by decide) (fun c_3 => ?_) (fun c_3 => ?_)
        · skip
          exact absurd c_3 (nI_pos (by omega))
        · skip
          refine lv_iload_n hx hb d_Model_numbers_29 rfl (lv_at hl 3 rfl) ?_
          refine lv_bipush (v := 6) hx hb d_Model_numbers_30 (by decide) ?_
          refine lv_icmp_ge (tgt := 58) hx hb d_Model_numbers_32 (by decide) (fun c_4 => ?_) (fun c_4 => ?_)
          · skip
            exact absurd c_4 (nI_ge (b := 6) hk (by decide))
          · skip
            refine lv_iload_n hx hb d_Model_numbers_35 rfl (lv_at hl 1 rfl) ?_
            refine lv_aload_n hx hb d_Model_numbers_36 rfl (lv_at hl 2 rfl) ?_
            refine cd_get (ci := 4) (C := R_Model) (T := F_Model) (N := 20) (v := .ref (m_ad w 10 6)) hx hb hA i_Model hown hK hW 9 0 rfl rfl rfl 7 (by decide) mw_191 rfl rfl d_Model_numbers_37 ?_
            refine lv_iload_n hx hb d_Model_numbers_40 rfl (lv_at hl 0 rfl) ?_
            refine cd_zald hx hb hK hW 10 6 (show (6 : Nat) < 11 from by decide) 4 rfl rfl (vp_in_nI (show 64 * kk + 1 + n < 384 by omega) (by decide)) d_Model_numbers_41 ?_
            rw [nI_clamp (show 64 * kk + 1 + n < 2 ^ 31 by omega)]
            refine lv_if_eq (tgt := 49) hx hb d_Model_numbers_42 (by decide) (fun c_5 => ?_) (fun c_5 => ?_)
            · skip
              refine lv_iconst (v := 0) hx hb d_Model_numbers_49 (by decide) ?_
              refine lv_iadd hx hb d_Model_numbers_50 ?_
              refine lv_istore_n (lv' := [(2, .int ((f_nu_r w kk n) + 0)), (3, .int (nI (64 * kk + 1 + n))), (0, .ref (m_ad w 9 0)), (1, .int (nI kk))]) hx hb d_Model_numbers_51 rfl hl (by decide) rfl (fun ls hl => ?_)
              refine lv_iinc (v := (nI (64 * kk + 1 + (n + 1)))) (lv' := [(3, .int (nI (64 * kk + 1 + (n + 1)))), (2, .int ((f_nu_r w kk n) + 0)), (0, .ref (m_ad w 9 0)), (1, .int (nI kk))]) hx hb d_Model_numbers_52 hl (k := 1) rfl (by rw [show Int32.ofInt 1 = 1 by decide]; exact nI_1 _) (by decide) rfl (fun ls hl => ?_)
              refine lv_goto (tgt := 14) hx hb d_Model_numbers_55 (by decide) ?_
              exact ih (n + 1) (by omega) ls _ _ hW hS (lv_sub hl [0, 1, 2, 3] (by simp only [lv_pick, List.filterMap_cons, List.filterMap_nil, List.getElem?_cons_zero, List.getElem?_cons_succ, f_nu_r, if_pos c_5]))
            · skip
              refine lv_iconst (v := 1) hx hb d_Model_numbers_45 (by decide) ?_
              refine lv_goto (tgt := 50) hx hb d_Model_numbers_46 (by decide) ?_
              refine lv_iadd hx hb d_Model_numbers_50 ?_
              refine lv_istore_n (lv' := [(2, .int ((f_nu_r w kk n) + 1)), (3, .int (nI (64 * kk + 1 + n))), (0, .ref (m_ad w 9 0)), (1, .int (nI kk))]) hx hb d_Model_numbers_51 rfl hl (by decide) rfl (fun ls hl => ?_)
              refine lv_iinc (v := (nI (64 * kk + 1 + (n + 1)))) (lv' := [(3, .int (nI (64 * kk + 1 + (n + 1)))), (2, .int ((f_nu_r w kk n) + 1)), (0, .ref (m_ad w 9 0)), (1, .int (nI kk))]) hx hb d_Model_numbers_52 hl (k := 1) rfl (by rw [show Int32.ofInt 1 = 1 by decide]; exact nI_1 _) (by decide) rfl (fun ls hl => ?_)
              refine lv_goto (tgt := 14) hx hb d_Model_numbers_55 (by decide) ?_
              exact ih (n + 1) (by omega) ls _ _ hW hS (lv_sub hl [0, 1, 2, 3] (by simp only [lv_pick, List.filterMap_cons, List.filterMap_nil, List.getElem?_cons_zero, List.getElem?_cons_succ, f_nu_r, if_neg c_5]))
  refine lv_aload_n hx hb d_Model_numbers_0 rfl (lv_at hl 0 rfl) ?_
  refine lv_iconst (v := 0) hx hb d_Model_numbers_1 (by decide) ?_
  refine cd_put (ci := 4) (C := R_Model) (T := F_Model) (N := 20) (v := .int 0) hx hb hA i_Model t_Model t_Model_ok n_Model hown hK hW hS 9 0 rfl rfl rfl 0 (by decide) mw_172 rfl rfl rfl rfl (Nat.le_of_ble_eq_true rfl) d_Model_numbers_2 (cm_ce dA (u_mc w 0 0)) rfl (kp_mc dA w 0 0) (fun H locs hW hS => ?_)
  have hW : cm_Wo D dA b0 (u_mc w 0 0) H := to_mc hW
  refine lv_iconst (v := 0) hx hb d_Model_numbers_5 (by decide) ?_
  refine lv_istore_n (lv' := [(2, .int 0), (0, .ref (m_ad w 9 0)), (1, .int (nI kk))]) hx hb d_Model_numbers_6 rfl hl (by decide) rfl (fun ls hl => ?_)
  refine lv_bipush (v := 64) hx hb d_Model_numbers_7 (by decide) ?_
  refine lv_iload_n hx hb d_Model_numbers_9 rfl (lv_at hl 2 rfl) ?_
  refine lv_imul hx hb d_Model_numbers_10 ?_
  refine lv_iconst (v := 1) hx hb d_Model_numbers_11 (by decide) ?_
  refine lv_iadd hx hb d_Model_numbers_12 ?_
  refine lv_istore_n (lv' := [(3, .int ((64 * (nI kk)) + 1)), (2, .int 0), (0, .ref (m_ad w 9 0)), (1, .int (nI kk))]) hx hb d_Model_numbers_13 rfl hl (by decide) rfl (fun ls hl => ?_)
  exact loop (20) 0 (by omega) ls _ _ hW hS (lv_sub hl [0, 1, 2, 3] (by simp only [lv_pick, List.filterMap_cons, List.filterMap_nil, List.getElem?_cons_zero, List.getElem?_cons_succ, e1]; rfl))

