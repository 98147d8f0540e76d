def f_CarDesk_collect (w : cx_W) (x : Int32) (y : Int64) : Int32 × cx_W := cd_oc (f_CarDesk_trayOfSort x) ((f_CarDesk_refuse w (-1)).1, (f_CarDesk_refuse w (-1)).2) (fun j_2 => if y < 0 then ((f_CarDesk_refuse w (-2)).1, (f_CarDesk_refuse w (-2)).2) else if y ≤ (cx_most j_2).toInt64 then (if (f_Tray_isFull w j_2) = 0 then ((nI (x_cnt (f_Tray_put w j_2 y.toInt32) j_2)), (u_ctr (f_Tray_put w j_2 y.toInt32) 7 ((x_ctr (f_Tray_put w j_2 y.toInt32) 7) + 1))) else ((f_CarDesk_refuse w (-4)).1, (f_CarDesk_refuse w (-4)).2)) else ((f_CarDesk_refuse w (-2)).1, (f_CarDesk_refuse w (-2)).2))
set_option maxHeartbeats 4000000 in
set_option maxRecDepth 100000 in
theorem c_CarDesk_collect (l : Launch) (D : va_G) (dA : Nat → ClassId) (b0 : Nat) (w : cx_W) (x : Int32) (y : Int64) (hI : cx_Iv w) : cd_Ct l D (cx_tys dA) b0 y_CarDesk_collect (.code y_CarDesk_collect b_CarDesk_collect 5 (some .int) :: cd_WA) { frames := 1, cells := 0, slots := 0, locals := 21 } [.ref (x_ad w 0 0), .int x, .long y] (cx_dm w) (x_ad w) (cx_ce dA w) (cx_R dA (some (.int (f_CarDesk_collect w x y).1)) (f_CarDesk_collect w x y).2) 0 0 := by
  refine cd_Ct.of b_CarDesk_collect 5 (some .int) (by decide) rfl ?_
  intro p e s m below meth c hx hb hr hml hown hlocks hnm hA hE hb0 hW hS ls hl
  have hK := hE.1
  have hl : lv_has ls 5 [(0, .ref (x_ad w 0 0)), (1, .int x), (2, .long y)] := hl
  refine lv_aload_n hx hb d_CarDesk_collect_0 rfl (lv_at hl 0 rfl) ?_
  refine lv_iload_n hx hb d_CarDesk_collect_1 rfl (lv_at hl 1 rfl) ?_
  refine cx_cV (w0 := w) (x0 := va_rf ((f_CarDesk_trayOfSort x).map (x_ad w 1))) (rest := []) (n := 1) ⟨hx, hb, hml, hown, hA⟩ (cd_GA mw_102) hE hb0 hW hS 0 0 rfl rfl rfl (c_CarDesk_trayOfSort l D dA b0 w x) mw_105 mw_103 mw_104 mw_32 (by decide +kernel) rfl rfl ⟨by decide, by decide⟩ rfl hl.1 rfl (Nat.le_of_ble_eq_true rfl) d_CarDesk_collect_2 ⟨by decide, by decide⟩ (fun H locs hW hS => ?_)
  rcases ho_1 : (f_CarDesk_trayOfSort x) with _ | j_2
  · skip
    refine lv_astoreN (lv' := [(4, .null), (0, .ref (x_ad w 0 0)), (1, .int x), (2, .long y)]) hx hb d_CarDesk_collect_5 hl (by decide) rfl (fun ls hl => ?_)
    refine lv_aloadN hx hb d_CarDesk_collect_7 (lv_at hl 0 rfl) ?_
    refine lv_ifnonnullN hx hb d_CarDesk_collect_9 ?_
    refine lv_aload_n hx hb d_CarDesk_collect_12 rfl (lv_at hl 1 rfl) ?_
    refine lv_iconst (v := (-1)) hx hb d_CarDesk_collect_13 (by decide) ?_
    refine cx_cV (w0 := (f_CarDesk_refuse w (-1)).2) (x0 := .int ((f_CarDesk_refuse w (-1)).1)) (rest := []) (n := 1) ⟨hx, hb, hml, hown, hA⟩ (cd_GA mw_106) hE hb0 hW hS 0 0 rfl rfl rfl (c_CarDesk_refuse l D dA b0 w (-1)) mw_109 mw_107 mw_108 mw_32 (by decide +kernel) rfl rfl ⟨by decide, by decide⟩ rfl hl.1 rfl (Nat.le_of_ble_eq_true rfl) d_CarDesk_collect_14 ⟨by decide, by decide⟩ (fun H locs hW hS => ?_)
    have hf : f_CarDesk_collect w x y = ((f_CarDesk_refuse w (-1)).1, (f_CarDesk_refuse w (-1)).2) := by
      simp only [f_CarDesk_collect, cd_oc_n ho_1]
    exact cd_iret hx hb hr hlocks hW hS d_CarDesk_collect_17 ⟨by rw [hf], by rw [hf], by rw [hf], by rw [hf]⟩ (Nat.le_of_ble_eq_true rfl) (Nat.le_of_ble_eq_true rfl)
  · skip
    have h_j_2 : j_2 < 3 := lt_trayOfSort ho_1
    refine lv_astore (lv' := [(4, .ref (x_ad w 1 j_2)), (0, .ref (x_ad w 0 0)), (1, .int x), (2, .long y)]) hx hb d_CarDesk_collect_5 hl (by decide) rfl (fun ls hl => ?_)
    refine lv_aload hx hb d_CarDesk_collect_7 (lv_at hl 0 rfl) ?_
    refine lv_ifnonnull (tgt := 18) hx hb d_CarDesk_collect_9 (by decide) ?_
    refine lv_lload_n hx hb d_CarDesk_collect_18 rfl (lv_at hl 3 rfl) ?_
    refine lv_lconst (v := 0) hx hb d_CarDesk_collect_19 (by decide) ?_
    refine cd_lc_lt (tgt := 35) hx hb d_CarDesk_collect_20 d_CarDesk_collect_21 (by decide) (fun c_3 => ?_) (fun c_3 => ?_)
    · skip
      refine lv_aload_n hx hb d_CarDesk_collect_35 rfl (lv_at hl 1 rfl) ?_
      refine lv_bipush (v := (-2)) hx hb d_CarDesk_collect_36 (by decide) ?_
      refine cx_cV (w0 := (f_CarDesk_refuse w (-2)).2) (x0 := .int ((f_CarDesk_refuse w (-2)).1)) (rest := []) (n := 1) ⟨hx, hb, hml, hown, hA⟩ (cd_GA mw_106) hE hb0 hW hS 0 0 rfl rfl rfl (c_CarDesk_refuse l D dA b0 w (-2)) mw_109 mw_107 mw_108 mw_32 (by decide +kernel) rfl rfl ⟨by decide, by decide⟩ rfl hl.1 rfl (Nat.le_of_ble_eq_true rfl) d_CarDesk_collect_38 ⟨by decide, by decide⟩ (fun H locs hW hS => ?_)
      have hf : f_CarDesk_collect w x y = ((f_CarDesk_refuse w (-2)).1, (f_CarDesk_refuse w (-2)).2) := by
        simp only [f_CarDesk_collect, cd_oc_s ho_1, if_pos c_3]
      exact cd_iret hx hb hr hlocks hW hS d_CarDesk_collect_41 ⟨by rw [hf], by rw [hf], by rw [hf], by rw [hf]⟩ (Nat.le_of_ble_eq_true rfl) (Nat.le_of_ble_eq_true rfl)
    · skip
      refine lv_lload_n hx hb d_CarDesk_collect_24 rfl (lv_at hl 3 rfl) ?_
      refine lv_aload hx hb d_CarDesk_collect_25 (lv_at hl 0 rfl) ?_
      refine cd_getN (ci := 1) (C := R_Tray) (T := F_Tray) (N := 3) (v := .int (cx_most j_2)) hx hb hA i_Tray hown hE hW 1 j_2 h_j_2 rfl rfl 0 (by decide) nn_17 rfl rfl d_CarDesk_collect_27 ?_
      refine lv_i2l hx hb d_CarDesk_collect_30 rfl ?_
      refine cd_lc_le (tgt := 42) hx hb d_CarDesk_collect_31 d_CarDesk_collect_32 (by decide) (fun c_4 => ?_) (fun c_4 => ?_)
      · skip
        refine lv_aload hx hb d_CarDesk_collect_42 (lv_at hl 0 rfl) ?_
        refine cx_cVN (w0 := w) (x0 := .int (f_Tray_isFull w j_2)) (rest := []) (n := 0) ⟨hx, hb, hml, hown, hA⟩ (cd_GA mw_110) hE hb0 hW hS 1 j_2 h_j_2 rfl rfl (c_Tray_isFull l D dA b0 w j_2 h_j_2) nn_18 mw_111 mw_112 mw_41 (by decide +kernel) rfl rfl ⟨by decide, by decide⟩ rfl hl.1 rfl (Nat.le_of_ble_eq_true rfl) d_CarDesk_collect_44 ⟨by decide, by decide⟩ (fun H locs hW hS => ?_)
        refine lv_if_eq (tgt := 57) hx hb d_CarDesk_collect_47 (by decide) (fun c_5 => ?_) (fun c_5 => ?_)
        · skip
          refine lv_aload hx hb d_CarDesk_collect_57 (lv_at hl 0 rfl) ?_
          refine lv_lload_n hx hb d_CarDesk_collect_59 rfl (lv_at hl 3 rfl) ?_
          refine lv_l2i hx hb d_CarDesk_collect_60 rfl ?_
          refine cx_cVN0 (w0 := (f_Tray_put w j_2 y.toInt32)) (rest := []) (n := 1) ⟨hx, hb, hml, hown, hA⟩ (cd_GA mw_113) hE hb0 hW hS 1 j_2 h_j_2 rfl rfl (c_Tray_put l D dA b0 w j_2 y.toInt32 h_j_2 (lt_full hI c_5)) nn_19 mw_114 mw_115 mw_41 (by decide +kernel) rfl rfl ⟨by decide, by decide⟩ rfl hl.1 rfl (Nat.le_of_ble_eq_true rfl) d_CarDesk_collect_61 ⟨by decide, by decide⟩ (fun H locs hW hS => ?_)
          refine lv_aload_n hx hb d_CarDesk_collect_64 rfl (lv_at hl 1 rfl) ?_
          refine lv_dup hx hb d_CarDesk_collect_65 rfl ?_
          refine cd_get (ci := 0) (C := R_CarDesk) (T := F_CarDesk) (N := 14) (v := .int (x_ctr (f_Tray_put w j_2 y.toInt32) 7)) hx hb hA i_CarDesk hown hK hW 0 0 rfl rfl rfl 13 (by decide) mw_116 rfl rfl d_CarDesk_collect_66 ?_
          refine lv_iconst (v := 1) hx hb d_CarDesk_collect_69 (by decide) ?_
          refine lv_iadd hx hb d_CarDesk_collect_70 ?_
          refine cd_put (ci := 0) (C := R_CarDesk) (T := F_CarDesk) (N := 14) (v := .int ((x_ctr (f_Tray_put w j_2 y.toInt32) 7) + 1)) hx hb hA i_CarDesk t_CarDesk t_CarDesk_ok n_CarDesk hown hK hW hS 0 0 rfl rfl rfl 13 (by decide) mw_116 rfl rfl rfl rfl (Nat.le_of_ble_eq_true rfl) d_CarDesk_collect_71 (cx_ce dA (u_ctr (f_Tray_put w j_2 y.toInt32) 7 ((x_ctr (f_Tray_put w j_2 y.toInt32) 7) + 1))) rfl (kp_ctr dA (f_Tray_put w j_2 y.toInt32) 7 ((x_ctr (f_Tray_put w j_2 y.toInt32) 7) + 1)) (fun H locs hW hS => ?_)
          have hW : cx_Wo D dA b0 (u_ctr (f_Tray_put w j_2 y.toInt32) 7 ((x_ctr (f_Tray_put w j_2 y.toInt32) 7) + 1)) H := to_ctr hW
          refine lv_aload hx hb d_CarDesk_collect_74 (lv_at hl 0 rfl) ?_
          refine cd_getN (ci := 1) (C := R_Tray) (T := F_Tray) (N := 3) (v := .int (nI (x_cnt (f_Tray_put w j_2 y.toInt32) j_2))) hx hb hA i_Tray hown hE hW 1 j_2 h_j_2 rfl rfl 2 (by decide) nn_3 rfl rfl d_CarDesk_collect_76 ?_
          have hf : f_CarDesk_collect w x y = ((nI (x_cnt (f_Tray_put w j_2 y.toInt32) j_2)), (u_ctr (f_Tray_put w j_2 y.toInt32) 7 ((x_ctr (f_Tray_put w j_2 y.toInt32) 7) + 1))) := by
            simp only [f_CarDesk_collect, cd_oc_s ho_1, if_neg c_3, if_pos c_4, if_pos c_5]
          exact cd_iret hx hb hr hlocks hW hS d_CarDesk_collect_79 ⟨by rw [hf], by rw [hf], by rw [hf], by rw [hf]⟩ (Nat.le_of_ble_eq_true rfl) (Nat.le_of_ble_eq_true rfl)
        · skip
          refine lv_aload_n hx hb d_CarDesk_collect_50 rfl (lv_at hl 1 rfl) ?_
          refine lv_bipush (v := (-4)) hx hb d_CarDesk_collect_51 (by decide) ?_
          refine cx_cV (w0 := (f_CarDesk_refuse w (-4)).2) (x0 := .int ((f_CarDesk_refuse w (-4)).1)) (rest := []) (n := 1) ⟨hx, hb, hml, hown, hA⟩ (cd_GA mw_106) hE hb0 hW hS 0 0 rfl rfl rfl (c_CarDesk_refuse l D dA b0 w (-4)) mw_109 mw_107 mw_108 mw_32 (by decide +kernel) rfl rfl ⟨by decide, by decide⟩ rfl hl.1 rfl (Nat.le_of_ble_eq_true rfl) d_CarDesk_collect_53 ⟨by decide, by decide⟩ (fun H locs hW hS => ?_)
          have hf : f_CarDesk_collect w x y = ((f_CarDesk_refuse w (-4)).1, (f_CarDesk_refuse w (-4)).2) := by
            simp only [f_CarDesk_collect, cd_oc_s ho_1, if_neg c_3, if_pos c_4, if_neg c_5]
          exact cd_iret hx hb hr hlocks hW hS d_CarDesk_collect_56 ⟨by rw [hf], by rw [hf], by rw [hf], by rw [hf]⟩ (Nat.le_of_ble_eq_true rfl) (Nat.le_of_ble_eq_true rfl)
      · skip
        refine lv_aload_n hx hb d_CarDesk_collect_35 rfl (lv_at hl 1 rfl) ?_
        refine lv_bipush (v := (-2)) hx hb d_CarDesk_collect_36 (by decide) ?_
        refine cx_cV (w0 := (f_CarDesk_refuse w (-2)).2) (x0 := .int ((f_CarDesk_refuse w (-2)).1)) (rest := []) (n := 1) ⟨hx, hb, hml, hown, hA⟩ (cd_GA mw_106) hE hb0 hW hS 0 0 rfl rfl rfl (c_CarDesk_refuse l D dA b0 w (-2)) mw_109 mw_107 mw_108 mw_32 (by decide +kernel) rfl rfl ⟨by decide, by decide⟩ rfl hl.1 rfl (Nat.le_of_ble_eq_true rfl) d_CarDesk_collect_38 ⟨by decide, by decide⟩ (fun H locs hW hS => ?_)
        have hf : f_CarDesk_collect w x y = ((f_CarDesk_refuse w (-2)).1, (f_CarDesk_refuse w (-2)).2) := by
          simp only [f_CarDesk_collect, cd_oc_s ho_1, if_neg c_3, if_neg c_4]
        exact cd_iret hx hb hr hlocks hW hS d_CarDesk_collect_41 ⟨by rw [hf], by rw [hf], by rw [hf], by rw [hf]⟩ (Nat.le_of_ble_eq_true rfl) (Nat.le_of_ble_eq_true rfl)

def f_CarDesk_answer (w : cx_W) (x : Int32) (y : Int64) : Int32 × cx_W := if (f_CarDesk_isCall x) = 0 then ((f_CarDesk_refuse w (-1)).1, (f_CarDesk_refuse w (-1)).2) else if (f_CarDesk_isArgument y) = 0 then ((f_CarDesk_refuse w (-2)).1, (f_CarDesk_refuse w (-2)).2) else (1, (u_ctr (u_ans w x.toNatClampNeg y) 7 ((x_ctr w 7) + 1)))
set_option maxHeartbeats 4000000 in
set_option maxRecDepth 100000 in
theorem c_CarDesk_answer (l : Launch) (D : va_G) (dA : Nat → ClassId) (b0 : Nat) (w : cx_W) (x : Int32) (y : Int64) : cd_Ct l D (cx_tys dA) b0 y_CarDesk_answer (.code y_CarDesk_answer b_CarDesk_answer 4 (some .int) :: cd_WA) { frames := 1, cells := 0, slots := 0, locals := 21 } [.ref (x_ad w 0 0), .int x, .long y] (cx_dm w) (x_ad w) (cx_ce dA w) (cx_R dA (some (.int (f_CarDesk_answer w x y).1)) (f_CarDesk_answer w x y).2) 0 0 := by
  refine cd_Ct.of b_CarDesk_answer 4 (some .int) (by decide) rfl ?_
  intro p e s m below meth c hx hb hr hml hown hlocks hnm hA hE hb0 hW hS ls hl
  have hK := hE.1
  have hl : lv_has ls 4 [(0, .ref (x_ad w 0 0)), (1, .int x), (2, .long y)] := hl
  refine lv_iload_n hx hb d_CarDesk_answer_0 rfl (lv_at hl 1 rfl) ?_
  refine cx_cS (w0 := w) (x0 := .int (f_CarDesk_isCall x)) (rest := []) (n := 1) ⟨hx, hb, hml, hown, hA⟩ (cd_GA mw_61) hE hb0 hW hS (c_CarDesk_isCall l D dA b0 w x) mw_63 mw_62 mw_32 (by decide +kernel) rfl rfl ⟨by decide, by decide⟩ rfl hl.1 rfl (Nat.le_of_ble_eq_true rfl) d_CarDesk_answer_1 ⟨by decide, by decide⟩ (fun H locs hW hS => ?_)
  refine lv_if_ne (tgt := 13) hx hb d_CarDesk_answer_4 (by decide) (fun c_1 => ?_) (fun c_1 => ?_)
  · skip
    refine lv_lload_n hx hb d_CarDesk_answer_13 rfl (lv_at hl 2 rfl) ?_
    refine cx_cS (w0 := w) (x0 := .int (f_CarDesk_isArgument y)) (rest := []) (n := 1) ⟨hx, hb, hml, hown, hA⟩ (cd_GA mw_73) hE hb0 hW hS (c_CarDesk_isArgument l D dA b0 w y) mw_75 mw_74 mw_32 (by decide +kernel) rfl rfl ⟨by decide, by decide⟩ rfl hl.1 rfl (Nat.le_of_ble_eq_true rfl) d_CarDesk_answer_14 ⟨by decide, by decide⟩ (fun H locs hW hS => ?_)
    refine lv_if_ne (tgt := 27) hx hb d_CarDesk_answer_17 (by decide) (fun c_2 => ?_) (fun c_2 => ?_)
    · skip
      refine lv_aload_n hx hb d_CarDesk_answer_27 rfl (lv_at hl 0 rfl) ?_
      refine cd_get (ci := 0) (C := R_CarDesk) (T := F_CarDesk) (N := 14) (v := .ref (x_ad w 6 0)) hx hb hA i_CarDesk hown hK hW 0 0 rfl rfl rfl 4 (by decide) mw_84 rfl rfl d_CarDesk_answer_28 ?_
      refine lv_iload_n hx hb d_CarDesk_answer_31 rfl (lv_at hl 1 rfl) ?_
      refine lv_lload_n hx hb d_CarDesk_answer_32 rfl (lv_at hl 2 rfl) ?_
      refine cd_last hx hb hK hW hS 6 0 rfl 1 rfl rfl (cd_call c_1) d_CarDesk_answer_33 (cx_ce dA (u_ans w x.toNatClampNeg y)) rfl (kp_ans dA w x.toNatClampNeg y) (fun H locs hW hS => ?_)
      have hW : cx_Wo D dA b0 (u_ans w x.toNatClampNeg y) H := to_ans hW
      refine lv_aload_n hx hb d_CarDesk_answer_34 rfl (lv_at hl 0 rfl) ?_
      refine lv_dup hx hb d_CarDesk_answer_35 rfl ?_
      refine cd_get (ci := 0) (C := R_CarDesk) (T := F_CarDesk) (N := 14) (v := .int (x_ctr w 7)) hx hb hA i_CarDesk hown hK hW 0 0 rfl rfl rfl 13 (by decide) mw_116 rfl rfl d_CarDesk_answer_36 ?_
      refine lv_iconst (v := 1) hx hb d_CarDesk_answer_39 (by decide) ?_
      refine lv_iadd hx hb d_CarDesk_answer_40 ?_
      refine cd_put (ci := 0) (C := R_CarDesk) (T := F_CarDesk) (N := 14) (v := .int ((x_ctr w 7) + 1)) hx hb hA i_CarDesk t_CarDesk t_CarDesk_ok n_CarDesk hown hK hW hS 0 0 rfl rfl rfl 13 (by decide) mw_116 rfl rfl rfl rfl (Nat.le_of_ble_eq_true rfl) d_CarDesk_answer_41 (cx_ce dA (u_ctr (u_ans w x.toNatClampNeg y) 7 ((x_ctr w 7) + 1))) rfl (kp_ctr dA (u_ans w x.toNatClampNeg y) 7 ((x_ctr w 7) + 1)) (fun H locs hW hS => ?_)
      have hW : cx_Wo D dA b0 (u_ctr (u_ans w x.toNatClampNeg y) 7 ((x_ctr w 7) + 1)) H := to_ctr hW
      refine lv_iconst (v := 1) hx hb d_CarDesk_answer_44 (by decide) ?_
      have hf : f_CarDesk_answer w x y = (1, (u_ctr (u_ans w x.toNatClampNeg y) 7 ((x_ctr w 7) + 1))) := by
        simp only [f_CarDesk_answer, if_neg c_1, if_neg c_2]
      exact cd_iret hx hb hr hlocks hW hS d_CarDesk_answer_45 ⟨by rw [hf], by rw [hf], by rw [hf], by rw [hf]⟩ (Nat.le_of_ble_eq_true rfl) (Nat.le_of_ble_eq_true rfl)
    · skip
      refine lv_aload_n hx hb d_CarDesk_answer_20 rfl (lv_at hl 0 rfl) ?_
      refine lv_bipush (v := (-2)) hx hb d_CarDesk_answer_21 (by decide) ?_
      refine cx_cV (w0 := (f_CarDesk_refuse w (-2)).2) (x0 := .int ((f_CarDesk_refuse w (-2)).1)) (rest := []) (n := 1) ⟨hx, hb, hml, hown, hA⟩ (cd_GA mw_106) hE hb0 hW hS 0 0 rfl rfl rfl (c_CarDesk_refuse l D dA b0 w (-2)) mw_109 mw_107 mw_108 mw_32 (by decide +kernel) rfl rfl ⟨by decide, by decide⟩ rfl hl.1 rfl (Nat.le_of_ble_eq_true rfl) d_CarDesk_answer_23 ⟨by decide, by decide⟩ (fun H locs hW hS => ?_)
      have hf : f_CarDesk_answer w x y = ((f_CarDesk_refuse w (-2)).1, (f_CarDesk_refuse w (-2)).2) := by
        simp only [f_CarDesk_answer, if_neg c_1, if_pos c_2]
      exact cd_iret hx hb hr hlocks hW hS d_CarDesk_answer_26 ⟨by rw [hf], by rw [hf], by rw [hf], by rw [hf]⟩ (Nat.le_of_ble_eq_true rfl) (Nat.le_of_ble_eq_true rfl)
  · skip
    refine lv_aload_n hx hb d_CarDesk_answer_7 rfl (lv_at hl 0 rfl) ?_
    refine lv_iconst (v := (-1)) hx hb d_CarDesk_answer_8 (by decide) ?_
    refine cx_cV (w0 := (f_CarDesk_refuse w (-1)).2) (x0 := .int ((f_CarDesk_refuse w (-1)).1)) (rest := []) (n := 1) ⟨hx, hb, hml, hown, hA⟩ (cd_GA mw_106) hE hb0 hW hS 0 0 rfl rfl rfl (c_CarDesk_refuse l D dA b0 w (-1)) mw_109 mw_107 mw_108 mw_32 (by decide +kernel) rfl rfl ⟨by decide, by decide⟩ rfl hl.1 rfl (Nat.le_of_ble_eq_true rfl) d_CarDesk_answer_9 ⟨by decide, by decide⟩ (fun H locs hW hS => ?_)
    have hf : f_CarDesk_answer w x y = ((f_CarDesk_refuse w (-1)).1, (f_CarDesk_refuse w (-1)).2) := by
      simp only [f_CarDesk_answer, if_pos c_1]
    exact cd_iret hx hb hr hlocks hW hS d_CarDesk_answer_12 ⟨by rw [hf], by rw [hf], by rw [hf], by rw [hf]⟩ (Nat.le_of_ble_eq_true rfl) (Nat.le_of_ble_eq_true rfl)

def f_CarDesk_fails (w : cx_W) (x : Int32) (y : Int32) : Int32 × cx_W := if (f_CarDesk_isCall x) = 0 then ((f_CarDesk_refuse w (-1)).1, (f_CarDesk_refuse w (-1)).2) else if y < 0 then ((f_CarDesk_refuse w (-2)).1, (f_CarDesk_refuse w (-2)).2) else if y ≤ 4 then ((x_fl w x.toNatClampNeg), (u_ctr (u_fl w x.toNatClampNeg y) 7 ((x_ctr w 7) + 1))) else ((f_CarDesk_refuse w (-2)).1, (f_CarDesk_refuse w (-2)).2)
set_option maxHeartbeats 4000000 in
set_option maxRecDepth 100000 in
theorem c_CarDesk_fails (l : Launch) (D : va_G) (dA : Nat → ClassId) (b0 : Nat) (w : cx_W) (x : Int32) (y : Int32) : cd_Ct l D (cx_tys dA) b0 y_CarDesk_fails (.code y_CarDesk_fails b_CarDesk_fails 4 (some .int) :: cd_WA) { frames := 1, cells := 0, slots := 0, locals := 21 } [.ref (x_ad w 0 0), .int x, .int y] (cx_dm w) (x_ad w) (cx_ce dA w) (cx_R dA (some (.int (f_CarDesk_fails w x y).1)) (f_CarDesk_fails w x y).2) 0 0 := by
  refine cd_Ct.of b_CarDesk_fails 4 (some .int) (by decide) rfl ?_
  intro p e s m below meth c hx hb hr hml hown hlocks hnm hA hE hb0 hW hS ls hl
  have hK := hE.1
  have hl : lv_has ls 4 [(0, .ref (x_ad w 0 0)), (1, .int x), (2, .int y)] := hl
  refine lv_iload_n hx hb d_CarDesk_fails_0 rfl (lv_at hl 1 rfl) ?_
  refine cx_cS (w0 := w) (x0 := .int (f_CarDesk_isCall x)) (rest := []) (n := 1) ⟨hx, hb, hml, hown, hA⟩ (cd_GA mw_61) hE hb0 hW hS (c_CarDesk_isCall l D dA b0 w x) mw_63 mw_62 mw_32 (by decide +kernel) rfl rfl ⟨by decide, by decide⟩ rfl hl.1 rfl (Nat.le_of_ble_eq_true rfl) d_CarDesk_fails_1 ⟨by decide, by decide⟩ (fun H locs hW hS => ?_)
  refine lv_if_ne (tgt := 13) hx hb d_CarDesk_fails_4 (by decide) (fun c_1 => ?_) (fun c_1 => ?_)
  · skip
    refine lv_iload_n hx hb d_CarDesk_fails_13 rfl (lv_at hl 2 rfl) ?_
    refine lv_if_lt (tgt := 22) hx hb d_CarDesk_fails_14 (by decide) (fun c_2 => ?_) (fun c_2 => ?_)
    · skip
      refine lv_aload_n hx hb d_CarDesk_fails_22 rfl (lv_at hl 0 rfl) ?_
      refine lv_bipush (v := (-2)) hx hb d_CarDesk_fails_23 (by decide) ?_
      refine cx_cV (w0 := (f_CarDesk_refuse w (-2)).2) (x0 := .int ((f_CarDesk_refuse w (-2)).1)) (rest := []) (n := 1) ⟨hx, hb, hml, hown, hA⟩ (cd_GA mw_106) hE hb0 hW hS 0 0 rfl rfl rfl (c_CarDesk_refuse l D dA b0 w (-2)) mw_109 mw_107 mw_108 mw_32 (by decide +kernel) rfl rfl ⟨by decide, by decide⟩ rfl hl.1 rfl (Nat.le_of_ble_eq_true rfl) d_CarDesk_fails_25 ⟨by decide, by decide⟩ (fun H locs hW hS => ?_)
      have hf : f_CarDesk_fails w x y = ((f_CarDesk_refuse w (-2)).1, (f_CarDesk_refuse w (-2)).2) := by
        simp only [f_CarDesk_fails, if_neg c_1, if_pos c_2]
      exact cd_iret hx hb hr hlocks hW hS d_CarDesk_fails_28 ⟨by rw [hf], by rw [hf], by rw [hf], by rw [hf]⟩ (Nat.le_of_ble_eq_true rfl) (Nat.le_of_ble_eq_true rfl)
    · skip
      refine lv_iload_n hx hb d_CarDesk_fails_17 rfl (lv_at hl 2 rfl) ?_
      refine lv_iconst (v := 4) hx hb d_CarDesk_fails_18 (by decide) ?_
      refine lv_icmp_le (tgt := 29) hx hb d_CarDesk_fails_19 (by decide) (fun c_3 => ?_) (fun c_3 => ?_)
      · skip
        refine lv_aload_n hx hb d_CarDesk_fails_29 rfl (lv_at hl 0 rfl) ?_
        refine cd_get (ci := 0) (C := R_CarDesk) (T := F_CarDesk) (N := 14) (v := .ref (x_ad w 7 0)) hx hb hA i_CarDesk hown hK hW 0 0 rfl rfl rfl 5 (by decide) mw_117 rfl rfl d_CarDesk_fails_30 ?_
        refine lv_iload_n hx hb d_CarDesk_fails_33 rfl (lv_at hl 1 rfl) ?_
        refine cd_iald hx hb hK hW 7 0 rfl 0 rfl rfl (cd_call c_1) d_CarDesk_fails_34 ?_
        refine lv_istore_n (lv' := [(3, .int (x_fl w x.toNatClampNeg)), (0, .ref (x_ad w 0 0)), (1, .int x), (2, .int y)]) hx hb d_CarDesk_fails_35 rfl hl (by decide) rfl (fun ls hl => ?_)
        refine lv_aload_n hx hb d_CarDesk_fails_36 rfl (lv_at hl 1 rfl) ?_
        refine cd_get (ci := 0) (C := R_CarDesk) (T := F_CarDesk) (N := 14) (v := .ref (x_ad w 7 0)) hx hb hA i_CarDesk hown hK hW 0 0 rfl rfl rfl 5 (by decide) mw_117 rfl rfl d_CarDesk_fails_37 ?_
        refine lv_iload_n hx hb d_CarDesk_fails_40 rfl (lv_at hl 2 rfl) ?_
        refine lv_iload_n hx hb d_CarDesk_fails_41 rfl (lv_at hl 3 rfl) ?_
        refine cd_iast hx hb hK hW hS 7 0 rfl 0 rfl rfl (cd_call c_1) d_CarDesk_fails_42 (cx_ce dA (u_fl w x.toNatClampNeg y)) rfl (kp_fl dA w x.toNatClampNeg y) (fun H locs hW hS => ?_)
        have hW : cx_Wo D dA b0 (u_fl w x.toNatClampNeg y) H := to_fl hW
        refine lv_aload_n hx hb d_CarDesk_fails_43 rfl (lv_at hl 1 rfl) ?_
        refine lv_dup hx hb d_CarDesk_fails_44 rfl ?_
        refine cd_get (ci := 0) (C := R_CarDesk) (T := F_CarDesk) (N := 14) (v := .int (x_ctr w 7)) hx hb hA i_CarDesk hown hK hW 0 0 rfl rfl rfl 13 (by decide) mw_116 rfl rfl d_CarDesk_fails_45 ?_
        refine lv_iconst (v := 1) hx hb d_CarDesk_fails_48 (by decide) ?_
        refine lv_iadd hx hb d_CarDesk_fails_49 ?_
        refine cd_put (ci := 0) (C := R_CarDesk) (T := F_CarDesk) (N := 14) (v := .int ((x_ctr w 7) + 1)) hx hb hA i_CarDesk t_CarDesk t_CarDesk_ok n_CarDesk hown hK hW hS 0 0 rfl rfl rfl 13 (by decide) mw_116 rfl rfl rfl rfl (Nat.le_of_ble_eq_true rfl) d_CarDesk_fails_50 (cx_ce dA (u_ctr (u_fl w x.toNatClampNeg y) 7 ((x_ctr w 7) + 1))) rfl (kp_ctr dA (u_fl w x.toNatClampNeg y) 7 ((x_ctr w 7) + 1)) (fun H locs hW hS => ?_)
        have hW : cx_Wo D dA b0 (u_ctr (u_fl w x.toNatClampNeg y) 7 ((x_ctr w 7) + 1)) H := to_ctr hW
        refine lv_iload_n hx hb d_CarDesk_fails_53 rfl (lv_at hl 0 rfl) ?_
        have hf : f_CarDesk_fails w x y = ((x_fl w x.toNatClampNeg), (u_ctr (u_fl w x.toNatClampNeg y) 7 ((x_ctr w 7) + 1))) := by
          simp only [f_CarDesk_fails, if_neg c_1, if_neg c_2, if_pos c_3]
        exact cd_iret hx hb hr hlocks hW hS d_CarDesk_fails_54 ⟨by rw [hf], by rw [hf], by rw [hf], by rw [hf]⟩ (Nat.le_of_ble_eq_true rfl) (Nat.le_of_ble_eq_true rfl)
      · skip
        refine lv_aload_n hx hb d_CarDesk_fails_22 rfl (lv_at hl 0 rfl) ?_
        refine lv_bipush (v := (-2)) hx hb d_CarDesk_fails_23 (by decide) ?_
        refine cx_cV (w0 := (f_CarDesk_refuse w (-2)).2) (x0 := .int ((f_CarDesk_refuse w (-2)).1)) (rest := []) (n := 1) ⟨hx, hb, hml, hown, hA⟩ (cd_GA mw_106) hE hb0 hW hS 0 0 rfl rfl rfl (c_CarDesk_refuse l D dA b0 w (-2)) mw_109 mw_107 mw_108 mw_32 (by decide +kernel) rfl rfl ⟨by decide, by decide⟩ rfl hl.1 rfl (Nat.le_of_ble_eq_true rfl) d_CarDesk_fails_25 ⟨by decide, by decide⟩ (fun H locs hW hS => ?_)
        have hf : f_CarDesk_fails w x y = ((f_CarDesk_refuse w (-2)).1, (f_CarDesk_refuse w (-2)).2) := by
          simp only [f_CarDesk_fails, if_neg c_1, if_neg c_2, if_neg c_3]
        exact cd_iret hx hb hr hlocks hW hS d_CarDesk_fails_28 ⟨by rw [hf], by rw [hf], by rw [hf], by rw [hf]⟩ (Nat.le_of_ble_eq_true rfl) (Nat.le_of_ble_eq_true rfl)
  · skip
    refine lv_aload_n hx hb d_CarDesk_fails_7 rfl (lv_at hl 0 rfl) ?_
    refine lv_iconst (v := (-1)) hx hb d_CarDesk_fails_8 (by decide) ?_
    refine cx_cV (w0 := (f_CarDesk_refuse w (-1)).2) (x0 := .int ((f_CarDesk_refuse w (-1)).1)) (rest := []) (n := 1) ⟨hx, hb, hml, hown, hA⟩ (cd_GA mw_106) hE hb0 hW hS 0 0 rfl rfl rfl (c_CarDesk_refuse l D dA b0 w (-1)) mw_109 mw_107 mw_108 mw_32 (by decide +kernel) rfl rfl ⟨by decide, by decide⟩ rfl hl.1 rfl (Nat.le_of_ble_eq_true rfl) d_CarDesk_fails_9 ⟨by decide, by decide⟩ (fun H locs hW hS => ?_)
    have hf : f_CarDesk_fails w x y = ((f_CarDesk_refuse w (-1)).1, (f_CarDesk_refuse w (-1)).2) := by
      simp only [f_CarDesk_fails, if_pos c_1]
    exact cd_iret hx hb hr hlocks hW hS d_CarDesk_fails_12 ⟨by rw [hf], by rw [hf], by rw [hf], by rw [hf]⟩ (Nat.le_of_ble_eq_true rfl) (Nat.le_of_ble_eq_true rfl)

def f_CarDesk_call (w : cx_W) (x : Int32) (n : Int32) (y : Int64) : Int64 × cx_W := cd_oc (f_CarDesk_thingForCall w x n.toInt64) (((f_CarDesk_refuse w (f_CarDesk_refusalOfCall w x none y)).1).toInt64, (f_CarDesk_refuse w (f_CarDesk_refusalOfCall w x none y)).2) (fun j_2 => if (f_CarDesk_refusalOfCall w x (some j_2) y) = 0 then (if (x_fl w x.toNatClampNeg) = 0 then ((f_CarDesk_outcomeOfCall (u_ctr (u_ctr w 7 ((x_ctr w 7) + 1)) 5 ((x_ctr w 5) + 1)) x j_2 y), (f_CarDesk_changeByCall (u_ctr (u_ctr w 7 ((x_ctr w 7) + 1)) 5 ((x_ctr w 5) + 1)) x j_2 y)) else (((-100) - (x_fl w x.toNatClampNeg)).toInt64, (f_CarDesk_tellFailed (u_ctr w 7 ((x_ctr w 7) + 1)) (x_fl w x.toNatClampNeg) x n))) else (((f_CarDesk_refuse w (f_CarDesk_refusalOfCall w x (some j_2) y)).1).toInt64, (f_CarDesk_refuse w (f_CarDesk_refusalOfCall w x (some j_2) y)).2))
set_option maxHeartbeats 4000000 in
set_option maxRecDepth 100000 in
theorem c_CarDesk_call (l : Launch) (D : va_G) (dA : Nat → ClassId) (b0 : Nat) (w : cx_W) (x : Int32) (n : Int32) (y : Int64) (hI : cx_Iv w) : cd_Ct l D (cx_tys dA) b0 y_CarDesk_call (.code y_CarDesk_call b_CarDesk_call 10 (some .long) :: cd_WA) { frames := 4, cells := 0, slots := 0, locals := 95 } [.ref (x_ad w 0 0), .int x, .int n, .long y] (cx_dm w) (x_ad w) (cx_ce dA w) (cx_R dA (some (.long (f_CarDesk_call w x n y).1)) (f_CarDesk_call w x n y).2) 0 0 := by
  refine cd_Ct.of b_CarDesk_call 10 (some .long) (by decide) rfl ?_
  intro p e s m below meth c hx hb hr hml hown hlocks hnm hA hE hb0 hW hS ls hl
  have hK := hE.1
  have hl : lv_has ls 10 [(0, .ref (x_ad w 0 0)), (1, .int x), (2, .int n), (3, .long y)] := hl
  refine lv_aload_n hx hb d_CarDesk_call_0 rfl (lv_at hl 0 rfl) ?_
  refine lv_iload_n hx hb d_CarDesk_call_1 rfl (lv_at hl 1 rfl) ?_
  refine lv_iload_n hx hb d_CarDesk_call_2 rfl (lv_at hl 2 rfl) ?_
  refine lv_i2l hx hb d_CarDesk_call_3 rfl ?_
  refine cx_cV (w0 := w) (x0 := va_rf ((f_CarDesk_thingForCall w x n.toInt64).map (x_ad w 8))) (rest := []) (n := 2) ⟨hx, hb, hml, hown, hA⟩ (cd_GA mw_79) hE hb0 hW hS 0 0 rfl rfl rfl (c_CarDesk_thingForCall l D dA b0 w x n.toInt64 hI) mw_82 mw_80 mw_81 mw_32 (by decide +kernel) rfl rfl ⟨by decide, by decide⟩ rfl hl.1 rfl (Nat.le_of_ble_eq_true rfl) d_CarDesk_call_4 ⟨by decide, by decide⟩ (fun H locs hW hS => ?_)
  rcases ho_1 : (f_CarDesk_thingForCall w x n.toInt64) with _ | j_2
  · skip
    refine lv_astoreN (lv' := [(5, .null), (0, .ref (x_ad w 0 0)), (1, .int x), (2, .int n), (3, .long y)]) hx hb d_CarDesk_call_7 hl (by decide) rfl (fun ls hl => ?_)
    refine lv_aload_n hx hb d_CarDesk_call_9 rfl (lv_at hl 1 rfl) ?_
    refine lv_iload_n hx hb d_CarDesk_call_10 rfl (lv_at hl 2 rfl) ?_
    refine lv_aloadN hx hb d_CarDesk_call_11 (lv_at hl 0 rfl) ?_
    refine lv_lload_n hx hb d_CarDesk_call_13 rfl (lv_at hl 4 rfl) ?_
    refine cx_cV (w0 := w) (x0 := .int (f_CarDesk_refusalOfCall w x none y)) (rest := []) (n := 3) ⟨hx, hb, hml, hown, hA⟩ (cd_GA mw_118) hE hb0 hW hS 0 0 rfl rfl rfl (c_CarDesk_refusalOfCall l D dA b0 w x none y hI (fun _ h => nomatch h)) mw_121 mw_119 mw_120 mw_32 (by decide +kernel) rfl rfl ⟨by decide, by decide⟩ rfl hl.1 rfl (Nat.le_of_ble_eq_true rfl) d_CarDesk_call_14 ⟨by decide, by decide⟩ (fun H locs hW hS => ?_)
    refine lv_istore (lv' := [(6, .int (f_CarDesk_refusalOfCall w x none y)), (5, .null), (0, .ref (x_ad w 0 0)), (1, .int x), (2, .int n), (3, .long y)]) hx hb d_CarDesk_call_17 hl (by decide) rfl (fun ls hl => ?_)
    refine lv_aloadN hx hb d_CarDesk_call_19 (lv_at hl 1 rfl) ?_
    refine lv_ifnullN (tgt := 29) hx hb d_CarDesk_call_21 (by decide) ?_
    refine lv_aload_n hx hb d_CarDesk_call_29 rfl (lv_at hl 2 rfl) ?_
    refine lv_iload hx hb d_CarDesk_call_30 (lv_at hl 0 rfl) ?_
    refine cx_cV (w0 := (f_CarDesk_refuse w (f_CarDesk_refusalOfCall w x none y)).2) (x0 := .int ((f_CarDesk_refuse w (f_CarDesk_refusalOfCall w x none y)).1)) (rest := []) (n := 1) ⟨hx, hb, hml, hown, hA⟩ (cd_GA mw_106) hE hb0 hW hS 0 0 rfl rfl rfl (c_CarDesk_refuse l D dA b0 w (f_CarDesk_refusalOfCall w x none y)) mw_109 mw_107 mw_108 mw_32 (by decide +kernel) rfl rfl ⟨by decide, by decide⟩ rfl hl.1 rfl (Nat.le_of_ble_eq_true rfl) d_CarDesk_call_32 ⟨by decide, by decide⟩ (fun H locs hW hS => ?_)
    refine lv_i2l hx hb d_CarDesk_call_35 rfl ?_
    have hf : f_CarDesk_call w x n y = (((f_CarDesk_refuse w (f_CarDesk_refusalOfCall w x none y)).1).toInt64, (f_CarDesk_refuse w (f_CarDesk_refusalOfCall w x none y)).2) := by
      simp only [f_CarDesk_call, cd_oc_n ho_1]
    exact cd_lret hx hb hr hlocks hW hS d_CarDesk_call_36 ⟨by rw [hf], by rw [hf], by rw [hf], by rw [hf]⟩ (Nat.le_of_ble_eq_true rfl) (Nat.le_of_ble_eq_true rfl)
  · skip
    have h_j_2 : x_al w j_2 := al_thingForCall hI ho_1
    refine lv_astore (lv' := [(5, .ref (x_ad w 8 j_2)), (0, .ref (x_ad w 0 0)), (1, .int x), (2, .int n), (3, .long y)]) hx hb d_CarDesk_call_7 hl (by decide) rfl (fun ls hl => ?_)
    refine lv_aload_n hx hb d_CarDesk_call_9 rfl (lv_at hl 1 rfl) ?_
    refine lv_iload_n hx hb d_CarDesk_call_10 rfl (lv_at hl 2 rfl) ?_
    refine lv_aload hx hb d_CarDesk_call_11 (lv_at hl 0 rfl) ?_
    refine lv_lload_n hx hb d_CarDesk_call_13 rfl (lv_at hl 4 rfl) ?_
    refine cx_cV (w0 := w) (x0 := .int (f_CarDesk_refusalOfCall w x (some j_2) y)) (rest := []) (n := 3) ⟨hx, hb, hml, hown, hA⟩ (cd_GA mw_118) hE hb0 hW hS 0 0 rfl rfl rfl (c_CarDesk_refusalOfCall l D dA b0 w x (some j_2) y hI (fun _ h => by cases h; exact h_j_2)) mw_121 mw_119 mw_120 mw_32 (by decide +kernel) rfl rfl ⟨by decide, by decide⟩ rfl hl.1 rfl (Nat.le_of_ble_eq_true rfl) d_CarDesk_call_14 ⟨by decide, by decide⟩ (fun H locs hW hS => ?_)
    refine lv_istore (lv' := [(6, .int (f_CarDesk_refusalOfCall w x (some j_2) y)), (5, .ref (x_ad w 8 j_2)), (0, .ref (x_ad w 0 0)), (1, .int x), (2, .int n), (3, .long y)]) hx hb d_CarDesk_call_17 hl (by decide) rfl (fun ls hl => ?_)
    refine lv_aload hx hb d_CarDesk_call_19 (lv_at hl 1 rfl) ?_
    refine lv_ifnull hx hb d_CarDesk_call_21 ?_
    refine lv_iload hx hb d_CarDesk_call_24 (lv_at hl 0 rfl) ?_
    refine lv_if_eq (tgt := 37) hx hb d_CarDesk_call_26 (by decide) (fun c_3 => ?_) (fun c_3 => ?_)
    · skip
      refine lv_aload_n hx hb d_CarDesk_call_37 rfl (lv_at hl 2 rfl) ?_
      refine lv_dup hx hb d_CarDesk_call_38 rfl ?_
      refine cd_get (ci := 0) (C := R_CarDesk) (T := F_CarDesk) (N := 14) (v := .int (x_ctr w 7)) hx hb hA i_CarDesk hown hK hW 0 0 rfl rfl rfl 13 (by decide) mw_116 rfl rfl d_CarDesk_call_39 ?_
      refine lv_iconst (v := 1) hx hb d_CarDesk_call_42 (by decide) ?_
      refine lv_iadd hx hb d_CarDesk_call_43 ?_
      refine cd_put (ci := 0) (C := R_CarDesk) (T := F_CarDesk) (N := 14) (v := .int ((x_ctr w 7) + 1)) hx hb hA i_CarDesk t_CarDesk t_CarDesk_ok n_CarDesk hown hK hW hS 0 0 rfl rfl rfl 13 (by decide) mw_116 rfl rfl rfl rfl (Nat.le_of_ble_eq_true rfl) d_CarDesk_call_44 (cx_ce dA (u_ctr w 7 ((x_ctr w 7) + 1))) rfl (kp_ctr dA w 7 ((x_ctr w 7) + 1)) (fun H locs hW hS => ?_)
      have hW : cx_Wo D dA b0 (u_ctr w 7 ((x_ctr w 7) + 1)) H := to_ctr hW
      refine lv_aload_n hx hb d_CarDesk_call_47 rfl (lv_at hl 2 rfl) ?_
      refine cd_get (ci := 0) (C := R_CarDesk) (T := F_CarDesk) (N := 14) (v := .ref (x_ad w 7 0)) hx hb hA i_CarDesk hown hK hW 0 0 rfl rfl rfl 5 (by decide) mw_117 rfl rfl d_CarDesk_call_48 ?_
      refine lv_iload_n hx hb d_CarDesk_call_51 rfl (lv_at hl 3 rfl) ?_
      refine cd_iald hx hb hK hW 7 0 rfl 0 rfl rfl (in_thingForCall ho_1) d_CarDesk_call_52 ?_
      refine lv_istore (lv' := [(7, .int (x_fl w x.toNatClampNeg)), (6, .int (f_CarDesk_refusalOfCall w x (some j_2) y)), (5, .ref (x_ad w 8 j_2)), (0, .ref (x_ad w 0 0)), (1, .int x), (2, .int n), (3, .long y)]) hx hb d_CarDesk_call_53 hl (by decide) rfl (fun ls hl => ?_)
      refine lv_iload hx hb d_CarDesk_call_55 (lv_at hl 0 rfl) ?_
      refine lv_if_eq (tgt := 75) hx hb d_CarDesk_call_57 (by decide) (fun c_4 => ?_) (fun c_4 => ?_)
      · skip
        refine lv_aload_n hx hb d_CarDesk_call_75 rfl (lv_at hl 3 rfl) ?_
        refine lv_dup hx hb d_CarDesk_call_76 rfl ?_
        refine cd_get (ci := 0) (C := R_CarDesk) (T := F_CarDesk) (N := 14) (v := .int (x_ctr w 5)) hx hb hA i_CarDesk hown hK hW 0 0 rfl rfl rfl 11 (by decide) mw_122 rfl rfl d_CarDesk_call_77 ?_
        refine lv_iconst (v := 1) hx hb d_CarDesk_call_80 (by decide) ?_
        refine lv_iadd hx hb d_CarDesk_call_81 ?_
        refine cd_put (ci := 0) (C := R_CarDesk) (T := F_CarDesk) (N := 14) (v := .int ((x_ctr w 5) + 1)) hx hb hA i_CarDesk t_CarDesk t_CarDesk_ok n_CarDesk hown hK hW hS 0 0 rfl rfl rfl 11 (by decide) mw_122 rfl rfl rfl rfl (Nat.le_of_ble_eq_true rfl) d_CarDesk_call_82 (cx_ce dA (u_ctr (u_ctr w 7 ((x_ctr w 7) + 1)) 5 ((x_ctr w 5) + 1))) rfl (kp_ctr dA (u_ctr w 7 ((x_ctr w 7) + 1)) 5 ((x_ctr w 5) + 1)) (fun H locs hW hS => ?_)
        have hW : cx_Wo D dA b0 (u_ctr (u_ctr w 7 ((x_ctr w 7) + 1)) 5 ((x_ctr w 5) + 1)) H := to_ctr hW
        refine lv_aload_n hx hb d_CarDesk_call_85 rfl (lv_at hl 3 rfl) ?_
        refine lv_iload_n hx hb d_CarDesk_call_86 rfl (lv_at hl 4 rfl) ?_
        refine lv_aload hx hb d_CarDesk_call_87 (lv_at hl 2 rfl) ?_
        refine lv_lload_n hx hb d_CarDesk_call_89 rfl (lv_at hl 6 rfl) ?_
        refine cx_cV (w0 := (u_ctr (u_ctr w 7 ((x_ctr w 7) + 1)) 5 ((x_ctr w 5) + 1))) (x0 := .long (f_CarDesk_outcomeOfCall (u_ctr (u_ctr w 7 ((x_ctr w 7) + 1)) 5 ((x_ctr w 5) + 1)) x j_2 y)) (rest := []) (n := 3) ⟨hx, hb, hml, hown, hA⟩ (cd_GA mw_123) hE hb0 hW hS 0 0 rfl rfl rfl (c_CarDesk_outcomeOfCall l D dA b0 (u_ctr (u_ctr w 7 ((x_ctr w 7) + 1)) 5 ((x_ctr w 5) + 1)) x j_2 y hI h_j_2 (in_thingForCall ho_1)) mw_126 mw_124 mw_125 mw_32 (by decide +kernel) rfl rfl ⟨by decide, by decide⟩ rfl hl.1 rfl (Nat.le_of_ble_eq_true rfl) d_CarDesk_call_90 ⟨by decide, by decide⟩ (fun H locs hW hS => ?_)
        refine lv_lstore (lv' := [(8, .long (f_CarDesk_outcomeOfCall (u_ctr (u_ctr w 7 ((x_ctr w 7) + 1)) 5 ((x_ctr w 5) + 1)) x j_2 y)), (7, .int (x_fl w x.toNatClampNeg)), (6, .int (f_CarDesk_refusalOfCall w x (some j_2) y)), (5, .ref (x_ad w 8 j_2)), (0, .ref (x_ad w 0 0)), (1, .int x), (2, .int n), (3, .long y)]) hx hb d_CarDesk_call_93 hl (by decide) rfl (fun ls hl => ?_)
        refine lv_aload_n hx hb d_CarDesk_call_95 rfl (lv_at hl 4 rfl) ?_
        refine lv_iload_n hx hb d_CarDesk_call_96 rfl (lv_at hl 5 rfl) ?_
        refine lv_aload hx hb d_CarDesk_call_97 (lv_at hl 3 rfl) ?_
        refine lv_lload_n hx hb d_CarDesk_call_99 rfl (lv_at hl 7 rfl) ?_
        refine cx_cV0 (w0 := (f_CarDesk_changeByCall (u_ctr (u_ctr w 7 ((x_ctr w 7) + 1)) 5 ((x_ctr w 5) + 1)) x j_2 y)) (rest := []) (n := 3) ⟨hx, hb, hml, hown, hA⟩ (cd_GA mw_127) hE hb0 hW hS 0 0 rfl rfl rfl (c_CarDesk_changeByCall l D dA b0 (u_ctr (u_ctr w 7 ((x_ctr w 7) + 1)) 5 ((x_ctr w 5) + 1)) x j_2 y hI h_j_2 (in_thingForCall ho_1)) mw_130 mw_128 mw_129 mw_32 (by decide +kernel) rfl rfl ⟨by decide, by decide⟩ rfl hl.1 rfl (Nat.le_of_ble_eq_true rfl) d_CarDesk_call_100 ⟨by decide, by decide⟩ (fun H locs hW hS => ?_)
        refine lv_lload hx hb d_CarDesk_call_103 (lv_at hl 0 rfl) ?_
        have hf : f_CarDesk_call w x n y = ((f_CarDesk_outcomeOfCall (u_ctr (u_ctr w 7 ((x_ctr w 7) + 1)) 5 ((x_ctr w 5) + 1)) x j_2 y), (f_CarDesk_changeByCall (u_ctr (u_ctr w 7 ((x_ctr w 7) + 1)) 5 ((x_ctr w 5) + 1)) x j_2 y)) := by
          simp only [f_CarDesk_call, cd_oc_s ho_1, if_pos c_3, if_pos c_4]
        exact cd_lret hx hb hr hlocks hW hS d_CarDesk_call_105 ⟨by rw [hf], by rw [hf], by rw [hf], by rw [hf]⟩ (Nat.le_of_ble_eq_true rfl) (Nat.le_of_ble_eq_true rfl)
      · skip
        refine lv_aload_n hx hb d_CarDesk_call_60 rfl (lv_at hl 3 rfl) ?_
        refine lv_iload hx hb d_CarDesk_call_61 (lv_at hl 0 rfl) ?_
        refine lv_iload_n hx hb d_CarDesk_call_63 rfl (lv_at hl 4 rfl) ?_
        refine lv_iload_n hx hb d_CarDesk_call_64 rfl (lv_at hl 5 rfl) ?_
        refine cx_cV0 (w0 := (f_CarDesk_tellFailed (u_ctr w 7 ((x_ctr w 7) + 1)) (x_fl w x.toNatClampNeg) x n)) (rest := []) (n := 3) ⟨hx, hb, hml, hown, hA⟩ (cd_GA mw_131) hE hb0 hW hS 0 0 rfl rfl rfl (c_CarDesk_tellFailed l D dA b0 (u_ctr w 7 ((x_ctr w 7) + 1)) (x_fl w x.toNatClampNeg) x n) mw_134 mw_132 mw_133 mw_32 (by decide +kernel) rfl rfl ⟨by decide, by decide⟩ rfl hl.1 rfl (Nat.le_of_ble_eq_true rfl) d_CarDesk_call_65 ⟨by decide, by decide⟩ (fun H locs hW hS => ?_)
        refine lv_bipush (v := (-100)) hx hb d_CarDesk_call_68 (by decide) ?_
        refine lv_iload hx hb d_CarDesk_call_70 (lv_at hl 0 rfl) ?_
        refine lv_isub hx hb d_CarDesk_call_72 ?_
        refine lv_i2l hx hb d_CarDesk_call_73 rfl ?_
        have hf : f_CarDesk_call w x n y = (((-100) - (x_fl w x.toNatClampNeg)).toInt64, (f_CarDesk_tellFailed (u_ctr w 7 ((x_ctr w 7) + 1)) (x_fl w x.toNatClampNeg) x n)) := by
          simp only [f_CarDesk_call, cd_oc_s ho_1, if_pos c_3, if_neg c_4]
        exact cd_lret hx hb hr hlocks hW hS d_CarDesk_call_74 ⟨by rw [hf], by rw [hf], by rw [hf], by rw [hf]⟩ (Nat.le_of_ble_eq_true rfl) (Nat.le_of_ble_eq_true rfl)
    · skip
      refine lv_aload_n hx hb d_CarDesk_call_29 rfl (lv_at hl 2 rfl) ?_
      refine lv_iload hx hb d_CarDesk_call_30 (lv_at hl 0 rfl) ?_
      refine cx_cV (w0 := (f_CarDesk_refuse w (f_CarDesk_refusalOfCall w x (some j_2) y)).2) (x0 := .int ((f_CarDesk_refuse w (f_CarDesk_refusalOfCall w x (some j_2) y)).1)) (rest := []) (n := 1) ⟨hx, hb, hml, hown, hA⟩ (cd_GA mw_106) hE hb0 hW hS 0 0 rfl rfl rfl (c_CarDesk_refuse l D dA b0 w (f_CarDesk_refusalOfCall w x (some j_2) y)) mw_109 mw_107 mw_108 mw_32 (by decide +kernel) rfl rfl ⟨by decide, by decide⟩ rfl hl.1 rfl (Nat.le_of_ble_eq_true rfl) d_CarDesk_call_32 ⟨by decide, by decide⟩ (fun H locs hW hS => ?_)
      refine lv_i2l hx hb d_CarDesk_call_35 rfl ?_
      have hf : f_CarDesk_call w x n y = (((f_CarDesk_refuse w (f_CarDesk_refusalOfCall w x (some j_2) y)).1).toInt64, (f_CarDesk_refuse w (f_CarDesk_refusalOfCall w x (some j_2) y)).2) := by
        simp only [f_CarDesk_call, cd_oc_s ho_1, if_neg c_3]
      exact cd_lret hx hb hr hlocks hW hS d_CarDesk_call_36 ⟨by rw [hf], by rw [hf], by rw [hf], by rw [hf]⟩ (Nat.le_of_ble_eq_true rfl) (Nat.le_of_ble_eq_true rfl)

def f_CarDesk_told (w : cx_W) (x : Int32) : Int32 := if x = 0 then (x_ctr w 0) else if x = 1 then (x_ctr w 1) else if x = 2 then (x_ctr w 2) else if x = 3 then (x_ctr w 3) else if x = 4 then (x_ctr w 4) else if x = 5 then (x_ctr w 5) else if x = 6 then (x_ctr w 6) else if x = 7 then (x_ctr w 7) else if x = 8 then (nI (x_cnt w 0)) else if x = 9 then (nI (x_cnt w 1)) else if x = 10 then (nI (x_cnt w 2)) else (-2)
set_option maxHeartbeats 4000000 in
set_option maxRecDepth 100000 in
theorem c_CarDesk_told (l : Launch) (D : va_G) (dA : Nat → ClassId) (b0 : Nat) (w : cx_W) (x : Int32) : cd_Ct l D (cx_tys dA) b0 y_CarDesk_told (.code y_CarDesk_told b_CarDesk_told 2 (some .int) :: cd_WA) { frames := 0, cells := 0, slots := 0, locals := 0 } [.ref (x_ad w 0 0), .int x] (cx_dm w) (x_ad w) (cx_ce dA w) (cx_R dA (some (.int (f_CarDesk_told w x))) w) 0 0 := by
  refine cd_Ct.of b_CarDesk_told 2 (some .int) (by decide) rfl ?_
  intro p e s m below meth c hx hb hr hml hown hlocks hnm hA hE hb0 hW hS ls hl
  have hK := hE.1
  have hl : lv_has ls 2 [(0, .ref (x_ad w 0 0)), (1, .int x)] := hl
  refine lv_iload_n hx hb d_CarDesk_told_0 rfl (lv_at hl 1 rfl) ?_
  refine lv_topi (fun z_1 ez_1 => ?_)
  by_cases h_2 : z_1 = 0
  · skip
    subst h_2
    have c_3 : x = 0 := ez_1.symm
    refine lv_tableIn (tgt := 60) (off := 59) hx hb d_CarDesk_told_1 (by decide) (by decide) (by decide) (by decide) ?_
    refine lv_aload_n hx hb d_CarDesk_told_60 rfl (lv_at hl 0 rfl) ?_
    refine cd_get (ci := 0) (C := R_CarDesk) (T := F_CarDesk) (N := 14) (v := .int (x_ctr w 0)) hx hb hA i_CarDesk hown hK hW 0 0 rfl rfl rfl 6 (by decide) mw_21 rfl rfl d_CarDesk_told_61 ?_
    have hf : f_CarDesk_told w x = (x_ctr w 0) := by
      simp only [f_CarDesk_told, if_pos c_3]
    exact cd_iret hx hb hr hlocks hW hS d_CarDesk_told_64 ⟨by rw [hf], rfl, rfl, rfl⟩ (Nat.le_of_ble_eq_true rfl) (Nat.le_of_ble_eq_true rfl)
  · skip
    have c_4 : ¬ x = 0 := fun q => h_2 (ez_1.trans q)
    by_cases h_5 : z_1 = 1
    · skip
      subst h_5
      have c_6 : x = 1 := ez_1.symm
      refine lv_tableIn (tgt := 65) (off := 64) hx hb d_CarDesk_told_1 (by decide) (by decide) (by decide) (by decide) ?_
      refine lv_aload_n hx hb d_CarDesk_told_65 rfl (lv_at hl 0 rfl) ?_
      refine cd_get (ci := 0) (C := R_CarDesk) (T := F_CarDesk) (N := 14) (v := .int (x_ctr w 1)) hx hb hA i_CarDesk hown hK hW 0 0 rfl rfl rfl 7 (by decide) mw_22 rfl rfl d_CarDesk_told_66 ?_
      have hf : f_CarDesk_told w x = (x_ctr w 1) := by
        simp only [f_CarDesk_told, if_neg c_4, if_pos c_6]
      exact cd_iret hx hb hr hlocks hW hS d_CarDesk_told_69 ⟨by rw [hf], rfl, rfl, rfl⟩ (Nat.le_of_ble_eq_true rfl) (Nat.le_of_ble_eq_true rfl)
    · skip
      have c_7 : ¬ x = 1 := fun q => h_5 (ez_1.trans q)
      by_cases h_8 : z_1 = 2
      · skip
        subst h_8
        have c_9 : x = 2 := ez_1.symm
        refine lv_tableIn (tgt := 70) (off := 69) hx hb d_CarDesk_told_1 (by decide) (by decide) (by decide) (by decide) ?_
        refine lv_aload_n hx hb d_CarDesk_told_70 rfl (lv_at hl 0 rfl) ?_
        refine cd_get (ci := 0) (C := R_CarDesk) (T := F_CarDesk) (N := 14) (v := .int (x_ctr w 2)) hx hb hA i_CarDesk hown hK hW 0 0 rfl rfl rfl 8 (by decide) mw_23 rfl rfl d_CarDesk_told_71 ?_
        have hf : f_CarDesk_told w x = (x_ctr w 2) := by
          simp only [f_CarDesk_told, if_neg c_4, if_neg c_7, if_pos c_9]
        exact cd_iret hx hb hr hlocks hW hS d_CarDesk_told_74 ⟨by rw [hf], rfl, rfl, rfl⟩ (Nat.le_of_ble_eq_true rfl) (Nat.le_of_ble_eq_true rfl)
      · skip
        have c_10 : ¬ x = 2 := fun q => h_8 (ez_1.trans q)
        by_cases h_11 : z_1 = 3
        · skip
          subst h_11
          have c_12 : x = 3 := ez_1.symm
          refine lv_tableIn (tgt := 75) (off := 74) hx hb d_CarDesk_told_1 (by decide) (by decide) (by decide) (by decide) ?_
          refine lv_aload_n hx hb d_CarDesk_told_75 rfl (lv_at hl 0 rfl) ?_
          refine cd_get (ci := 0) (C := R_CarDesk) (T := F_CarDesk) (N := 14) (v := .int (x_ctr w 3)) hx hb hA i_CarDesk hown hK hW 0 0 rfl rfl rfl 9 (by decide) mw_24 rfl rfl d_CarDesk_told_76 ?_
          have hf : f_CarDesk_told w x = (x_ctr w 3) := by
            simp only [f_CarDesk_told, if_neg c_4, if_neg c_7, if_neg c_10, if_pos c_12]
          exact cd_iret hx hb hr hlocks hW hS d_CarDesk_told_79 ⟨by rw [hf], rfl, rfl, rfl⟩ (Nat.le_of_ble_eq_true rfl) (Nat.le_of_ble_eq_true rfl)
        · skip
          have c_13 : ¬ x = 3 := fun q => h_11 (ez_1.trans q)
          by_cases h_14 : z_1 = 4
          · skip
            subst h_14
            have c_15 : x = 4 := ez_1.symm
            refine lv_tableIn (tgt := 80) (off := 79) hx hb d_CarDesk_told_1 (by decide) (by decide) (by decide) (by decide) ?_
            refine lv_aload_n hx hb d_CarDesk_told_80 rfl (lv_at hl 0 rfl) ?_
            refine cd_get (ci := 0) (C := R_CarDesk) (T := F_CarDesk) (N := 14) (v := .int (x_ctr w 4)) hx hb hA i_CarDesk hown hK hW 0 0 rfl rfl rfl 10 (by decide) mw_25 rfl rfl d_CarDesk_told_81 ?_
            have hf : f_CarDesk_told w x = (x_ctr w 4) := by
              simp only [f_CarDesk_told, if_neg c_4, if_neg c_7, if_neg c_10, if_neg c_13, if_pos c_15]
            exact cd_iret hx hb hr hlocks hW hS d_CarDesk_told_84 ⟨by rw [hf], rfl, rfl, rfl⟩ (Nat.le_of_ble_eq_true rfl) (Nat.le_of_ble_eq_true rfl)
          · skip
            have c_16 : ¬ x = 4 := fun q => h_14 (ez_1.trans q)
            by_cases h_17 : z_1 = 5
            · skip
              subst h_17
              have c_18 : x = 5 := ez_1.symm
              refine lv_tableIn (tgt := 85) (off := 84) hx hb d_CarDesk_told_1 (by decide) (by decide) (by decide) (by decide) ?_
              refine lv_aload_n hx hb d_CarDesk_told_85 rfl (lv_at hl 0 rfl) ?_
              refine cd_get (ci := 0) (C := R_CarDesk) (T := F_CarDesk) (N := 14) (v := .int (x_ctr w 5)) hx hb hA i_CarDesk hown hK hW 0 0 rfl rfl rfl 11 (by decide) mw_122 rfl rfl d_CarDesk_told_86 ?_
              have hf : f_CarDesk_told w x = (x_ctr w 5) := by
                simp only [f_CarDesk_told, if_neg c_4, if_neg c_7, if_neg c_10, if_neg c_13, if_neg c_16, if_pos c_18]
              exact cd_iret hx hb hr hlocks hW hS d_CarDesk_told_89 ⟨by rw [hf], rfl, rfl, rfl⟩ (Nat.le_of_ble_eq_true rfl) (Nat.le_of_ble_eq_true rfl)
            · skip
              have c_19 : ¬ x = 5 := fun q => h_17 (ez_1.trans q)
              by_cases h_20 : z_1 = 6
              · skip
                subst h_20
                have c_21 : x = 6 := ez_1.symm
                refine lv_tableIn (tgt := 90) (off := 89) hx hb d_CarDesk_told_1 (by decide) (by decide) (by decide) (by decide) ?_
                refine lv_aload_n hx hb d_CarDesk_told_90 rfl (lv_at hl 0 rfl) ?_
                refine cd_get (ci := 0) (C := R_CarDesk) (T := F_CarDesk) (N := 14) (v := .int (x_ctr w 6)) hx hb hA i_CarDesk hown hK hW 0 0 rfl rfl rfl 12 (by decide) mw_135 rfl rfl d_CarDesk_told_91 ?_
                have hf : f_CarDesk_told w x = (x_ctr w 6) := by
                  simp only [f_CarDesk_told, if_neg c_4, if_neg c_7, if_neg c_10, if_neg c_13, if_neg c_16, if_neg c_19, if_pos c_21]
                exact cd_iret hx hb hr hlocks hW hS d_CarDesk_told_94 ⟨by rw [hf], rfl, rfl, rfl⟩ (Nat.le_of_ble_eq_true rfl) (Nat.le_of_ble_eq_true rfl)
              · skip
                have c_22 : ¬ x = 6 := fun q => h_20 (ez_1.trans q)
                by_cases h_23 : z_1 = 7
                · skip
                  subst h_23
                  have c_24 : x = 7 := ez_1.symm
                  refine lv_tableIn (tgt := 95) (off := 94) hx hb d_CarDesk_told_1 (by decide) (by decide) (by decide) (by decide) ?_
                  refine lv_aload_n hx hb d_CarDesk_told_95 rfl (lv_at hl 0 rfl) ?_
                  refine cd_get (ci := 0) (C := R_CarDesk) (T := F_CarDesk) (N := 14) (v := .int (x_ctr w 7)) hx hb hA i_CarDesk hown hK hW 0 0 rfl rfl rfl 13 (by decide) mw_116 rfl rfl d_CarDesk_told_96 ?_
                  have hf : f_CarDesk_told w x = (x_ctr w 7) := by
                    simp only [f_CarDesk_told, if_neg c_4, if_neg c_7, if_neg c_10, if_neg c_13, if_neg c_16, if_neg c_19, if_neg c_22, if_pos c_24]
                  exact cd_iret hx hb hr hlocks hW hS d_CarDesk_told_99 ⟨by rw [hf], rfl, rfl, rfl⟩ (Nat.le_of_ble_eq_true rfl) (Nat.le_of_ble_eq_true rfl)
                · skip
                  have c_25 : ¬ x = 7 := fun q => h_23 (ez_1.trans q)
                  by_cases h_26 : z_1 = 8
                  · skip
                    subst h_26
                    have c_27 : x = 8 := ez_1.symm
                    refine lv_tableIn (tgt := 100) (off := 99) hx hb d_CarDesk_told_1 (by decide) (by decide) (by decide) (by decide) ?_
                    refine lv_aload_n hx hb d_CarDesk_told_100 rfl (lv_at hl 0 rfl) ?_
                    refine cd_get (ci := 0) (C := R_CarDesk) (T := F_CarDesk) (N := 14) (v := .ref (x_ad w 1 0)) hx hb hA i_CarDesk hown hK hW 0 0 rfl rfl rfl 0 (by decide) mw_28 rfl rfl d_CarDesk_told_101 ?_
                    refine cd_getN (ci := 1) (C := R_Tray) (T := F_Tray) (N := 3) (v := .int (nI (x_cnt w 0))) hx hb hA i_Tray hown hE hW 1 0 (show (0 : Nat) < 3 from by decide) rfl rfl 2 (by decide) nn_3 rfl rfl d_CarDesk_told_104 ?_
                    have hf : f_CarDesk_told w x = (nI (x_cnt w 0)) := by
                      simp only [f_CarDesk_told, if_neg c_4, if_neg c_7, if_neg c_10, if_neg c_13, if_neg c_16, if_neg c_19, if_neg c_22, if_neg c_25, if_pos c_27]
                    exact cd_iret hx hb hr hlocks hW hS d_CarDesk_told_107 ⟨by rw [hf], rfl, rfl, rfl⟩ (Nat.le_of_ble_eq_true rfl) (Nat.le_of_ble_eq_true rfl)
                  · skip
                    have c_28 : ¬ x = 8 := fun q => h_26 (ez_1.trans q)
                    by_cases h_29 : z_1 = 9
                    · skip
                      subst h_29
                      have c_30 : x = 9 := ez_1.symm
                      refine lv_tableIn (tgt := 108) (off := 107) hx hb d_CarDesk_told_1 (by decide) (by decide) (by decide) (by decide) ?_
                      refine lv_aload_n hx hb d_CarDesk_told_108 rfl (lv_at hl 0 rfl) ?_
                      refine cd_get (ci := 0) (C := R_CarDesk) (T := F_CarDesk) (N := 14) (v := .ref (x_ad w 1 1)) hx hb hA i_CarDesk hown hK hW 0 0 rfl rfl rfl 1 (by decide) mw_29 rfl rfl d_CarDesk_told_109 ?_
                      refine cd_getN (ci := 1) (C := R_Tray) (T := F_Tray) (N := 3) (v := .int (nI (x_cnt w 1))) hx hb hA i_Tray hown hE hW 1 1 (show (1 : Nat) < 3 from by decide) rfl rfl 2 (by decide) nn_3 rfl rfl d_CarDesk_told_112 ?_
                      have hf : f_CarDesk_told w x = (nI (x_cnt w 1)) := by
                        simp only [f_CarDesk_told, if_neg c_4, if_neg c_7, if_neg c_10, if_neg c_13, if_neg c_16, if_neg c_19, if_neg c_22, if_neg c_25, if_neg c_28, if_pos c_30]
                      exact cd_iret hx hb hr hlocks hW hS d_CarDesk_told_115 ⟨by rw [hf], rfl, rfl, rfl⟩ (Nat.le_of_ble_eq_true rfl) (Nat.le_of_ble_eq_true rfl)
                    · skip
                      have c_31 : ¬ x = 9 := fun q => h_29 (ez_1.trans q)
                      by_cases h_32 : z_1 = 10
                      · skip
                        subst h_32
                        have c_33 : x = 10 := ez_1.symm
                        refine lv_tableIn (tgt := 116) (off := 115) hx hb d_CarDesk_told_1 (by decide) (by decide) (by decide) (by decide) ?_
                        refine lv_aload_n hx hb d_CarDesk_told_116 rfl (lv_at hl 0 rfl) ?_
                        refine cd_get (ci := 0) (C := R_CarDesk) (T := F_CarDesk) (N := 14) (v := .ref (x_ad w 1 2)) hx hb hA i_CarDesk hown hK hW 0 0 rfl rfl rfl 2 (by decide) mw_30 rfl rfl d_CarDesk_told_117 ?_
                        refine cd_getN (ci := 1) (C := R_Tray) (T := F_Tray) (N := 3) (v := .int (nI (x_cnt w 2))) hx hb hA i_Tray hown hE hW 1 2 (show (2 : Nat) < 3 from by decide) rfl rfl 2 (by decide) nn_3 rfl rfl d_CarDesk_told_120 ?_
                        have hf : f_CarDesk_told w x = (nI (x_cnt w 2)) := by
                          simp only [f_CarDesk_told, if_neg c_4, if_neg c_7, if_neg c_10, if_neg c_13, if_neg c_16, if_neg c_19, if_neg c_22, if_neg c_25, if_neg c_28, if_neg c_31, if_pos c_33]
                        exact cd_iret hx hb hr hlocks hW hS d_CarDesk_told_123 ⟨by rw [hf], rfl, rfl, rfl⟩ (Nat.le_of_ble_eq_true rfl) (Nat.le_of_ble_eq_true rfl)
                      · skip
                        have c_34 : ¬ x = 10 := fun q => h_32 (ez_1.trans q)
                        refine lv_tableOut (tgt := 124) hx hb d_CarDesk_told_1 (by have g0 := cd_ne 0 0 (by decide) h_2; have g1 := cd_ne 1 1 (by decide) h_5; have g2 := cd_ne 2 2 (by decide) h_8; have g3 := cd_ne 3 3 (by decide) h_11; have g4 := cd_ne 4 4 (by decide) h_14; have g5 := cd_ne 5 5 (by decide) h_17; have g6 := cd_ne 6 6 (by decide) h_20; have g7 := cd_ne 7 7 (by decide) h_23; have g8 := cd_ne 8 8 (by decide) h_26; have g9 := cd_ne 9 9 (by decide) h_29; have g10 := cd_ne 10 10 (by decide) h_32; omega) (by decide) ?_
                        refine lv_bipush (v := (-2)) hx hb d_CarDesk_told_124 (by decide) ?_
                        have hf : f_CarDesk_told w x = (-2) := by
                          simp only [f_CarDesk_told, if_neg c_4, if_neg c_7, if_neg c_10, if_neg c_13, if_neg c_16, if_neg c_19, if_neg c_22, if_neg c_25, if_neg c_28, if_neg c_31, if_neg c_34]
                        exact cd_iret hx hb hr hlocks hW hS d_CarDesk_told_126 ⟨by rw [hf], rfl, rfl, rfl⟩ (Nat.le_of_ble_eq_true rfl) (Nat.le_of_ble_eq_true rfl)

def f_CarDesk_drop (w : cx_W) (x : Int32) : Int32 × cx_W := cd_oc (f_CarDesk_thingOf w x.toInt64) (0, (u_ctr w 0 ((x_ctr w 0) + 1))) (fun j_2 => if (f_Thing_isInUse w j_2) = 0 then (1, (u_ctr (f_Thing_leave w j_2) 7 ((x_ctr (f_Thing_leave w j_2) 7) + 1))) else (0, (u_ctr w 0 ((x_ctr w 0) + 1))))
set_option maxHeartbeats 4000000 in
set_option maxRecDepth 100000 in
theorem c_CarDesk_drop (l : Launch) (D : va_G) (dA : Nat → ClassId) (b0 : Nat) (w : cx_W) (x : Int32) (hI : cx_Iv w) : cd_Ct l D (cx_tys dA) b0 y_CarDesk_drop (.code y_CarDesk_drop b_CarDesk_drop 3 (some .boolean) :: cd_WA) { frames := 2, cells := 0, slots := 0, locals := 45 } [.ref (x_ad w 0 0), .int x] (cx_dm w) (x_ad w) (cx_ce dA w) (cx_R dA (some (.int (f_CarDesk_drop w x).1)) (f_CarDesk_drop w x).2) 0 0 := by
  refine cd_Ct.of b_CarDesk_drop 3 (some .boolean) (by decide) rfl ?_
  intro p e s m below meth c hx hb hr hml hown hlocks hnm hA hE hb0 hW hS ls hl
  have hK := hE.1
  have hl : lv_has ls 3 [(0, .ref (x_ad w 0 0)), (1, .int x)] := hl
  refine lv_aload_n hx hb d_CarDesk_drop_0 rfl (lv_at hl 0 rfl) ?_
  refine lv_iload_n hx hb d_CarDesk_drop_1 rfl (lv_at hl 1 rfl) ?_
  refine lv_i2l hx hb d_CarDesk_drop_2 rfl ?_
  refine cx_cV (w0 := w) (x0 := va_rf ((f_CarDesk_thingOf w x.toInt64).map (x_ad w 8))) (rest := []) (n := 1) ⟨hx, hb, hml, hown, hA⟩ (cd_GA mw_65) hE hb0 hW hS 0 0 rfl rfl rfl (c_CarDesk_thingOf l D dA b0 w x.toInt64 hI) mw_68 mw_66 mw_67 mw_32 (by decide +kernel) rfl rfl ⟨by decide, by decide⟩ rfl hl.1 rfl (Nat.le_of_ble_eq_true rfl) d_CarDesk_drop_3 ⟨by decide, by decide⟩ (fun H locs hW hS => ?_)
  rcases ho_1 : (f_CarDesk_thingOf w x.toInt64) with _ | j_2
  · skip
    refine lv_astore_nN (lv' := [(2, .null), (0, .ref (x_ad w 0 0)), (1, .int x)]) hx hb d_CarDesk_drop_6 rfl hl (by decide) rfl (fun ls hl => ?_)
    refine lv_aload_nN hx hb d_CarDesk_drop_7 rfl (lv_at hl 0 rfl) ?_
    refine lv_ifnullN (tgt := 18) hx hb d_CarDesk_drop_8 (by decide) ?_
    refine lv_aload_n hx hb d_CarDesk_drop_18 rfl (lv_at hl 1 rfl) ?_
    refine lv_dup hx hb d_CarDesk_drop_19 rfl ?_
    refine cd_get (ci := 0) (C := R_CarDesk) (T := F_CarDesk) (N := 14) (v := .int (x_ctr w 0)) hx hb hA i_CarDesk hown hK hW 0 0 rfl rfl rfl 6 (by decide) mw_21 rfl rfl d_CarDesk_drop_20 ?_
    refine lv_iconst (v := 1) hx hb d_CarDesk_drop_23 (by decide) ?_
    refine lv_iadd hx hb d_CarDesk_drop_24 ?_
    refine cd_put (ci := 0) (C := R_CarDesk) (T := F_CarDesk) (N := 14) (v := .int ((x_ctr w 0) + 1)) hx hb hA i_CarDesk t_CarDesk t_CarDesk_ok n_CarDesk hown hK hW hS 0 0 rfl rfl rfl 6 (by decide) mw_21 rfl rfl rfl rfl (Nat.le_of_ble_eq_true rfl) d_CarDesk_drop_25 (cx_ce dA (u_ctr w 0 ((x_ctr w 0) + 1))) rfl (kp_ctr dA w 0 ((x_ctr w 0) + 1)) (fun H locs hW hS => ?_)
    have hW : cx_Wo D dA b0 (u_ctr w 0 ((x_ctr w 0) + 1)) H := to_ctr hW
    refine lv_iconst (v := 0) hx hb d_CarDesk_drop_28 (by decide) ?_
    have hf : f_CarDesk_drop w x = (0, (u_ctr w 0 ((x_ctr w 0) + 1))) := by
      simp only [f_CarDesk_drop, cd_oc_n ho_1]
    exact cd_zret hx hb hr hlocks hW hS d_CarDesk_drop_29 (by decide) ⟨by rw [hf], by rw [hf], by rw [hf], by rw [hf]⟩ (Nat.le_of_ble_eq_true rfl) (Nat.le_of_ble_eq_true rfl)
  · skip
    have h_j_2 : x_al w j_2 := al_thingOf hI ho_1
    refine lv_astore_n (lv' := [(2, .ref (x_ad w 8 j_2)), (0, .ref (x_ad w 0 0)), (1, .int x)]) hx hb d_CarDesk_drop_6 rfl hl (by decide) rfl (fun ls hl => ?_)
    refine lv_aload_n hx hb d_CarDesk_drop_7 rfl (lv_at hl 0 rfl) ?_
    refine lv_ifnull hx hb d_CarDesk_drop_8 ?_
    refine lv_aload_n hx hb d_CarDesk_drop_11 rfl (lv_at hl 0 rfl) ?_
    refine cx_cVN (w0 := w) (x0 := .int (f_Thing_isInUse w j_2)) (rest := []) (n := 0) ⟨hx, hb, hml, hown, hA⟩ (cd_GA mw_69) hE hb0 hW hS 8 j_2 h_j_2 rfl rfl (c_Thing_isInUse l D dA b0 w j_2 h_j_2) nn_13 mw_71 mw_72 mw_70 (by decide +kernel) rfl rfl ⟨by decide, by decide⟩ rfl hl.1 rfl (Nat.le_of_ble_eq_true rfl) d_CarDesk_drop_12 ⟨by decide, by decide⟩ (fun H locs hW hS => ?_)
    refine lv_if_eq (tgt := 30) hx hb d_CarDesk_drop_15 (by decide) (fun c_3 => ?_) (fun c_3 => ?_)
    · skip
      refine lv_aload_n hx hb d_CarDesk_drop_30 rfl (lv_at hl 0 rfl) ?_
      refine cx_cVN0 (w0 := (f_Thing_leave w j_2)) (rest := []) (n := 0) ⟨hx, hb, hml, hown, hA⟩ (cd_GA mw_136) hE hb0 hW hS 8 j_2 h_j_2 rfl rfl (c_Thing_leave l D dA b0 w j_2 h_j_2 hI) nn_20 mw_137 mw_138 mw_70 (by decide +kernel) rfl rfl ⟨by decide, by decide⟩ rfl hl.1 rfl (Nat.le_of_ble_eq_true rfl) d_CarDesk_drop_31 ⟨by decide, by decide⟩ (fun H locs hW hS => ?_)
      refine lv_aload_n hx hb d_CarDesk_drop_34 rfl (lv_at hl 1 rfl) ?_
      refine lv_dup hx hb d_CarDesk_drop_35 rfl ?_
      refine cd_get (ci := 0) (C := R_CarDesk) (T := F_CarDesk) (N := 14) (v := .int (x_ctr (f_Thing_leave w j_2) 7)) hx hb hA i_CarDesk hown hK hW 0 0 rfl rfl rfl 13 (by decide) mw_116 rfl rfl d_CarDesk_drop_36 ?_
      refine lv_iconst (v := 1) hx hb d_CarDesk_drop_39 (by decide) ?_
      refine lv_iadd hx hb d_CarDesk_drop_40 ?_
      refine cd_put (ci := 0) (C := R_CarDesk) (T := F_CarDesk) (N := 14) (v := .int ((x_ctr (f_Thing_leave w j_2) 7) + 1)) hx hb hA i_CarDesk t_CarDesk t_CarDesk_ok n_CarDesk hown hK hW hS 0 0 rfl rfl rfl 13 (by decide) mw_116 rfl rfl rfl rfl (Nat.le_of_ble_eq_true rfl) d_CarDesk_drop_41 (cx_ce dA (u_ctr (f_Thing_leave w j_2) 7 ((x_ctr (f_Thing_leave w j_2) 7) + 1))) rfl (kp_ctr dA (f_Thing_leave w j_2) 7 ((x_ctr (f_Thing_leave w j_2) 7) + 1)) (fun H locs hW hS => ?_)
      have hW : cx_Wo D dA b0 (u_ctr (f_Thing_leave w j_2) 7 ((x_ctr (f_Thing_leave w j_2) 7) + 1)) H := to_ctr hW
      refine lv_iconst (v := 1) hx hb d_CarDesk_drop_44 (by decide) ?_
      have hf : f_CarDesk_drop w x = (1, (u_ctr (f_Thing_leave w j_2) 7 ((x_ctr (f_Thing_leave w j_2) 7) + 1))) := by
        simp only [f_CarDesk_drop, cd_oc_s ho_1, if_pos c_3]
      exact cd_zret hx hb hr hlocks hW hS d_CarDesk_drop_45 (by decide) ⟨by rw [hf], by rw [hf], by rw [hf], by rw [hf]⟩ (Nat.le_of_ble_eq_true rfl) (Nat.le_of_ble_eq_true rfl)
    · skip
      refine lv_aload_n hx hb d_CarDesk_drop_18 rfl (lv_at hl 1 rfl) ?_
      refine lv_dup hx hb d_CarDesk_drop_19 rfl ?_
      refine cd_get (ci := 0) (C := R_CarDesk) (T := F_CarDesk) (N := 14) (v := .int (x_ctr w 0)) hx hb hA i_CarDesk hown hK hW 0 0 rfl rfl rfl 6 (by decide) mw_21 rfl rfl d_CarDesk_drop_20 ?_
      refine lv_iconst (v := 1) hx hb d_CarDesk_drop_23 (by decide) ?_
      refine lv_iadd hx hb d_CarDesk_drop_24 ?_
      refine cd_put (ci := 0) (C := R_CarDesk) (T := F_CarDesk) (N := 14) (v := .int ((x_ctr w 0) + 1)) hx hb hA i_CarDesk t_CarDesk t_CarDesk_ok n_CarDesk hown hK hW hS 0 0 rfl rfl rfl 6 (by decide) mw_21 rfl rfl rfl rfl (Nat.le_of_ble_eq_true rfl) d_CarDesk_drop_25 (cx_ce dA (u_ctr w 0 ((x_ctr w 0) + 1))) rfl (kp_ctr dA w 0 ((x_ctr w 0) + 1)) (fun H locs hW hS => ?_)
      have hW : cx_Wo D dA b0 (u_ctr w 0 ((x_ctr w 0) + 1)) H := to_ctr hW
      refine lv_iconst (v := 0) hx hb d_CarDesk_drop_28 (by decide) ?_
      have hf : f_CarDesk_drop w x = (0, (u_ctr w 0 ((x_ctr w 0) + 1))) := by
        simp only [f_CarDesk_drop, cd_oc_s ho_1, if_neg c_3]
      exact cd_zret hx hb hr hlocks hW hS d_CarDesk_drop_29 (by decide) ⟨by rw [hf], by rw [hf], by rw [hf], by rw [hf]⟩ (Nat.le_of_ble_eq_true rfl) (Nat.le_of_ble_eq_true rfl)

def f_CarDesk_numbers (w : cx_W) (x : Int32) : Int32 := if (f_CarDesk_isKind x) = 0 then 0 else (f_Shelf_countThere w x.toNatClampNeg)
set_option maxHeartbeats 4000000 in
set_option maxRecDepth 100000 in
theorem c_CarDesk_numbers (l : Launch) (D : va_G) (dA : Nat → ClassId) (b0 : Nat) (w : cx_W) (x : Int32) (hI : cx_Iv w) : cd_Ct l D (cx_tys dA) b0 y_CarDesk_numbers (.code y_CarDesk_numbers b_CarDesk_numbers 2 (some .int) :: cd_WA) { frames := 2, cells := 0, slots := 0, locals := 44 } [.ref (x_ad w 0 0), .int x] (cx_dm w) (x_ad w) (cx_ce dA w) (cx_R dA (some (.int (f_CarDesk_numbers w x))) w) 0 0 := by
  refine cd_Ct.of b_CarDesk_numbers 2 (some .int) (by decide) rfl ?_
  intro p e s m below meth c hx hb hr hml hown hlocks hnm hA hE hb0 hW hS ls hl
  have hK := hE.1
  have hl : lv_has ls 2 [(0, .ref (x_ad w 0 0)), (1, .int x)] := hl
  refine lv_iload_n hx hb d_CarDesk_numbers_0 rfl (lv_at hl 1 rfl) ?_
  refine cx_cS (w0 := w) (x0 := .int (f_CarDesk_isKind x)) (rest := []) (n := 1) ⟨hx, hb, hml, hown, hA⟩ (cd_GA mw_139) hE hb0 hW hS (c_CarDesk_isKind l D dA b0 w x) mw_141 mw_140 mw_32 (by decide +kernel) rfl rfl ⟨by decide, by decide⟩ rfl hl.1 rfl (Nat.le_of_ble_eq_true rfl) d_CarDesk_numbers_1 ⟨by decide, by decide⟩ (fun H locs hW hS => ?_)
  refine lv_if_eq (tgt := 19) hx hb d_CarDesk_numbers_4 (by decide) (fun c_1 => ?_) (fun c_1 => ?_)
  · skip
    refine lv_iconst (v := 0) hx hb d_CarDesk_numbers_19 (by decide) ?_
    have hf : f_CarDesk_numbers w x = 0 := by
      simp only [f_CarDesk_numbers, if_pos c_1]
    exact cd_iret hx hb hr hlocks hW hS d_CarDesk_numbers_20 ⟨by rw [hf], rfl, rfl, rfl⟩ (Nat.le_of_ble_eq_true rfl) (Nat.le_of_ble_eq_true rfl)
  · skip
    refine lv_aload_n hx hb d_CarDesk_numbers_7 rfl (lv_at hl 0 rfl) ?_
    refine cd_get (ci := 0) (C := R_CarDesk) (T := F_CarDesk) (N := 14) (v := .ref (x_ad w 3 0)) hx hb hA i_CarDesk hown hK hW 0 0 rfl rfl rfl 3 (by decide) mw_36 rfl rfl d_CarDesk_numbers_8 ?_
    refine lv_iload_n hx hb d_CarDesk_numbers_11 rfl (lv_at hl 1 rfl) ?_
    refine cd_aald hx hb hK hW 3 0 rfl 2 rfl rfl (cd_kind c_1) d_CarDesk_numbers_12 ?_
    refine cx_cVN (w0 := w) (x0 := .int (f_Shelf_countThere w x.toNatClampNeg)) (rest := []) (n := 0) ⟨hx, hb, hml, hown, hA⟩ (cd_GA mw_54) hE hb0 hW hS 4 x.toNatClampNeg (cd_vlt (cd_kind c_1)) rfl rfl (c_Shelf_countThere l D dA b0 w x.toNatClampNeg (cd_vlt (cd_kind c_1)) hI) nn_9 mw_55 mw_56 mw_13 (by decide +kernel) rfl rfl ⟨by decide, by decide⟩ rfl hl.1 rfl (Nat.le_of_ble_eq_true rfl) d_CarDesk_numbers_13 ⟨by decide, by decide⟩ (fun H locs hW hS => ?_)
    refine lv_goto (tgt := 20) hx hb d_CarDesk_numbers_16 (by decide) ?_
    have hf : f_CarDesk_numbers w x = (f_Shelf_countThere w x.toNatClampNeg) := by
      simp only [f_CarDesk_numbers, if_neg c_1]
    exact cd_iret hx hb hr hlocks hW hS d_CarDesk_numbers_20 ⟨by rw [hf], rfl, rfl, rfl⟩ (Nat.le_of_ble_eq_true rfl) (Nat.le_of_ble_eq_true rfl)

def f_CarDesk_again (w : cx_W) (x : Int32) (n : Int32) (y : Int64) : Int64 := if (x_ctr w 7) ≤ 128 then (cd_oc (f_CarDesk_thingForCall w x n.toInt64) ((f_CarDesk_refusalOfCall w x none y).toInt64) (fun j_3 => if (f_CarDesk_refusalOfCall w x (some j_3) y) = 0 then (if (x_fl w x.toNatClampNeg) = 0 then (f_CarDesk_outcomeOfCall w x j_3 y) else ((-100) - (x_fl w x.toNatClampNeg)).toInt64) else (f_CarDesk_refusalOfCall w x (some j_3) y).toInt64)) else (-4)
set_option maxHeartbeats 4000000 in
set_option maxRecDepth 100000 in
theorem c_CarDesk_again (l : Launch) (D : va_G) (dA : Nat → ClassId) (b0 : Nat) (w : cx_W) (x : Int32) (n : Int32) (y : Int64) (hI : cx_Iv w) : cd_Ct l D (cx_tys dA) b0 y_CarDesk_again (.code y_CarDesk_again b_CarDesk_again 8 (some .long) :: cd_WA) { frames := 4, cells := 0, slots := 0, locals := 93 } [.ref (x_ad w 0 0), .int x, .int n, .long y] (cx_dm w) (x_ad w) (cx_ce dA w) (cx_R dA (some (.long (f_CarDesk_again w x n y))) w) 0 0 := by
  refine cd_Ct.of b_CarDesk_again 8 (some .long) (by decide) rfl ?_
  intro p e s m below meth c hx hb hr hml hown hlocks hnm hA hE hb0 hW hS ls hl
  have hK := hE.1
  have hl : lv_has ls 8 [(0, .ref (x_ad w 0 0)), (1, .int x), (2, .int n), (3, .long y)] := hl
  refine lv_aload_n hx hb d_CarDesk_again_0 rfl (lv_at hl 0 rfl) ?_
  refine cd_get (ci := 0) (C := R_CarDesk) (T := F_CarDesk) (N := 14) (v := .int (x_ctr w 7)) hx hb hA i_CarDesk hown hK hW 0 0 rfl rfl rfl 13 (by decide) mw_116 rfl rfl d_CarDesk_again_1 ?_
  refine lv_sipush (v := 128) hx hb d_CarDesk_again_4 (by decide) ?_
  refine lv_icmp_le (tgt := 14) hx hb d_CarDesk_again_7 (by decide) (fun c_1 => ?_) (fun c_1 => ?_)
  · skip
    refine lv_aload_n hx hb d_CarDesk_again_14 rfl (lv_at hl 0 rfl) ?_
    refine lv_iload_n hx hb d_CarDesk_again_15 rfl (lv_at hl 1 rfl) ?_
    refine lv_iload_n hx hb d_CarDesk_again_16 rfl (lv_at hl 2 rfl) ?_
    refine lv_i2l hx hb d_CarDesk_again_17 rfl ?_
    refine cx_cV (w0 := w) (x0 := va_rf ((f_CarDesk_thingForCall w x n.toInt64).map (x_ad w 8))) (rest := []) (n := 2) ⟨hx, hb, hml, hown, hA⟩ (cd_GA mw_79) hE hb0 hW hS 0 0 rfl rfl rfl (c_CarDesk_thingForCall l D dA b0 w x n.toInt64 hI) mw_82 mw_80 mw_81 mw_32 (by decide +kernel) rfl rfl ⟨by decide, by decide⟩ rfl hl.1 rfl (Nat.le_of_ble_eq_true rfl) d_CarDesk_again_18 ⟨by decide, by decide⟩ (fun H locs hW hS => ?_)
    rcases ho_2 : (f_CarDesk_thingForCall w x n.toInt64) with _ | j_3
    · skip
      refine lv_astoreN (lv' := [(5, .null), (0, .ref (x_ad w 0 0)), (1, .int x), (2, .int n), (3, .long y)]) hx hb d_CarDesk_again_21 hl (by decide) rfl (fun ls hl => ?_)
      refine lv_aload_n hx hb d_CarDesk_again_23 rfl (lv_at hl 1 rfl) ?_
      refine lv_iload_n hx hb d_CarDesk_again_24 rfl (lv_at hl 2 rfl) ?_
      refine lv_aloadN hx hb d_CarDesk_again_25 (lv_at hl 0 rfl) ?_
      refine lv_lload_n hx hb d_CarDesk_again_27 rfl (lv_at hl 4 rfl) ?_
      refine cx_cV (w0 := w) (x0 := .int (f_CarDesk_refusalOfCall w x none y)) (rest := []) (n := 3) ⟨hx, hb, hml, hown, hA⟩ (cd_GA mw_118) hE hb0 hW hS 0 0 rfl rfl rfl (c_CarDesk_refusalOfCall l D dA b0 w x none y hI (fun _ h => nomatch h)) mw_121 mw_119 mw_120 mw_32 (by decide +kernel) rfl rfl ⟨by decide, by decide⟩ rfl hl.1 rfl (Nat.le_of_ble_eq_true rfl) d_CarDesk_again_28 ⟨by decide, by decide⟩ (fun H locs hW hS => ?_)
      refine lv_istore (lv' := [(6, .int (f_CarDesk_refusalOfCall w x none y)), (5, .null), (0, .ref (x_ad w 0 0)), (1, .int x), (2, .int n), (3, .long y)]) hx hb d_CarDesk_again_31 hl (by decide) rfl (fun ls hl => ?_)
      refine lv_aloadN hx hb d_CarDesk_again_33 (lv_at hl 1 rfl) ?_
      refine lv_ifnullN (tgt := 43) hx hb d_CarDesk_again_35 (by decide) ?_
      refine lv_iload hx hb d_CarDesk_again_43 (lv_at hl 0 rfl) ?_
      refine lv_i2l hx hb d_CarDesk_again_45 rfl ?_
      have hf : f_CarDesk_again w x n y = (f_CarDesk_refusalOfCall w x none y).toInt64 := by
        simp only [f_CarDesk_again, if_pos c_1, cd_oc_n ho_2]
      exact cd_lret hx hb hr hlocks hW hS d_CarDesk_again_46 ⟨by rw [hf], rfl, rfl, rfl⟩ (Nat.le_of_ble_eq_true rfl) (Nat.le_of_ble_eq_true rfl)
    · skip
      have h_j_3 : x_al w j_3 := al_thingForCall hI ho_2
      refine lv_astore (lv' := [(5, .ref (x_ad w 8 j_3)), (0, .ref (x_ad w 0 0)), (1, .int x), (2, .int n), (3, .long y)]) hx hb d_CarDesk_again_21 hl (by decide) rfl (fun ls hl => ?_)
      refine lv_aload_n hx hb d_CarDesk_again_23 rfl (lv_at hl 1 rfl) ?_
      refine lv_iload_n hx hb d_CarDesk_again_24 rfl (lv_at hl 2 rfl) ?_
      refine lv_aload hx hb d_CarDesk_again_25 (lv_at hl 0 rfl) ?_
      refine lv_lload_n hx hb d_CarDesk_again_27 rfl (lv_at hl 4 rfl) ?_
      refine cx_cV (w0 := w) (x0 := .int (f_CarDesk_refusalOfCall w x (some j_3) y)) (rest := []) (n := 3) ⟨hx, hb, hml, hown, hA⟩ (cd_GA mw_118) hE hb0 hW hS 0 0 rfl rfl rfl (c_CarDesk_refusalOfCall l D dA b0 w x (some j_3) y hI (fun _ h => by cases h; exact h_j_3)) mw_121 mw_119 mw_120 mw_32 (by decide +kernel) rfl rfl ⟨by decide, by decide⟩ rfl hl.1 rfl (Nat.le_of_ble_eq_true rfl) d_CarDesk_again_28 ⟨by decide, by decide⟩ (fun H locs hW hS => ?_)
      refine lv_istore (lv' := [(6, .int (f_CarDesk_refusalOfCall w x (some j_3) y)), (5, .ref (x_ad w 8 j_3)), (0, .ref (x_ad w 0 0)), (1, .int x), (2, .int n), (3, .long y)]) hx hb d_CarDesk_again_31 hl (by decide) rfl (fun ls hl => ?_)
      refine lv_aload hx hb d_CarDesk_again_33 (lv_at hl 1 rfl) ?_
      refine lv_ifnull hx hb d_CarDesk_again_35 ?_
      refine lv_iload hx hb d_CarDesk_again_38 (lv_at hl 0 rfl) ?_
      refine lv_if_eq (tgt := 47) hx hb d_CarDesk_again_40 (by decide) (fun c_4 => ?_) (fun c_4 => ?_)
      · skip
        refine lv_aload_n hx hb d_CarDesk_again_47 rfl (lv_at hl 2 rfl) ?_
        refine cd_get (ci := 0) (C := R_CarDesk) (T := F_CarDesk) (N := 14) (v := .ref (x_ad w 7 0)) hx hb hA i_CarDesk hown hK hW 0 0 rfl rfl rfl 5 (by decide) mw_117 rfl rfl d_CarDesk_again_48 ?_
        refine lv_iload_n hx hb d_CarDesk_again_51 rfl (lv_at hl 3 rfl) ?_
        refine cd_iald hx hb hK hW 7 0 rfl 0 rfl rfl (in_thingForCall ho_2) d_CarDesk_again_52 ?_
        refine lv_istore (lv' := [(7, .int (x_fl w x.toNatClampNeg)), (6, .int (f_CarDesk_refusalOfCall w x (some j_3) y)), (5, .ref (x_ad w 8 j_3)), (0, .ref (x_ad w 0 0)), (1, .int x), (2, .int n), (3, .long y)]) hx hb d_CarDesk_again_53 hl (by decide) rfl (fun ls hl => ?_)
        refine lv_iload hx hb d_CarDesk_again_55 (lv_at hl 0 rfl) ?_
        refine lv_if_eq (tgt := 69) hx hb d_CarDesk_again_57 (by decide) (fun c_5 => ?_) (fun c_5 => ?_)
        · skip
          refine lv_aload_n hx hb d_CarDesk_again_69 rfl (lv_at hl 3 rfl) ?_
          refine lv_iload_n hx hb d_CarDesk_again_70 rfl (lv_at hl 4 rfl) ?_
          refine lv_aload hx hb d_CarDesk_again_71 (lv_at hl 2 rfl) ?_
          refine lv_lload_n hx hb d_CarDesk_again_73 rfl (lv_at hl 6 rfl) ?_
          refine cx_cV (w0 := w) (x0 := .long (f_CarDesk_outcomeOfCall w x j_3 y)) (rest := []) (n := 3) ⟨hx, hb, hml, hown, hA⟩ (cd_GA mw_123) hE hb0 hW hS 0 0 rfl rfl rfl (c_CarDesk_outcomeOfCall l D dA b0 w x j_3 y hI h_j_3 (in_thingForCall ho_2)) mw_126 mw_124 mw_125 mw_32 (by decide +kernel) rfl rfl ⟨by decide, by decide⟩ rfl hl.1 rfl (Nat.le_of_ble_eq_true rfl) d_CarDesk_again_74 ⟨by decide, by decide⟩ (fun H locs hW hS => ?_)
          have hf : f_CarDesk_again w x n y = (f_CarDesk_outcomeOfCall w x j_3 y) := by
            simp only [f_CarDesk_again, if_pos c_1, cd_oc_s ho_2, if_pos c_4, if_pos c_5]
          exact cd_lret hx hb hr hlocks hW hS d_CarDesk_again_77 ⟨by rw [hf], rfl, rfl, rfl⟩ (Nat.le_of_ble_eq_true rfl) (Nat.le_of_ble_eq_true rfl)
        · skip
          refine lv_bipush (v := (-100)) hx hb d_CarDesk_again_60 (by decide) ?_
          refine lv_iload hx hb d_CarDesk_again_62 (lv_at hl 0 rfl) ?_
          refine lv_isub hx hb d_CarDesk_again_64 ?_
          refine lv_i2l hx hb d_CarDesk_again_65 rfl ?_
          refine lv_goto (tgt := 77) hx hb d_CarDesk_again_66 (by decide) ?_
          have hf : f_CarDesk_again w x n y = ((-100) - (x_fl w x.toNatClampNeg)).toInt64 := by
            simp only [f_CarDesk_again, if_pos c_1, cd_oc_s ho_2, if_pos c_4, if_neg c_5]
          exact cd_lret hx hb hr hlocks hW hS d_CarDesk_again_77 ⟨by rw [hf], rfl, rfl, rfl⟩ (Nat.le_of_ble_eq_true rfl) (Nat.le_of_ble_eq_true rfl)
      · skip
        refine lv_iload hx hb d_CarDesk_again_43 (lv_at hl 0 rfl) ?_
        refine lv_i2l hx hb d_CarDesk_again_45 rfl ?_
        have hf : f_CarDesk_again w x n y = (f_CarDesk_refusalOfCall w x (some j_3) y).toInt64 := by
          simp only [f_CarDesk_again, if_pos c_1, cd_oc_s ho_2, if_neg c_4]
        exact cd_lret hx hb hr hlocks hW hS d_CarDesk_again_46 ⟨by rw [hf], rfl, rfl, rfl⟩ (Nat.le_of_ble_eq_true rfl) (Nat.le_of_ble_eq_true rfl)
  · skip
    refine lv_ldc2 (v := (-4)) hx hb hown (hA _ mw_142) d_CarDesk_again_10 ?_
    have hf : f_CarDesk_again w x n y = (-4) := by
      simp only [f_CarDesk_again, if_neg c_1]
    exact cd_lret hx hb hr hlocks hW hS d_CarDesk_again_13 ⟨by rw [hf], rfl, rfl, rfl⟩ (Nat.le_of_ble_eq_true rfl) (Nat.le_of_ble_eq_true rfl)

