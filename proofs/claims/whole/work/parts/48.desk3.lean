def f_CarDesk_refusalOfStep (w : cx_W) (x : Int32) (q : Nat) : Int32 := if x = 0 then (if (f_Thing_isInUse w q) = 0 then (if (x_tu w q) < 50 then 0 else (-4)) else (-3)) else if (x_tu w q) < 50 then 0 else (-4)
set_option maxHeartbeats 4000000 in
set_option maxRecDepth 100000 in
theorem c_CarDesk_refusalOfStep (l : Launch) (D : va_G) (dA : Nat → ClassId) (b0 : Nat) (w : cx_W) (x : Int32) (q : Nat) (h_q : x_al w q) : cd_Ct l D (cx_tys dA) b0 y_CarDesk_refusalOfStep (.code y_CarDesk_refusalOfStep b_CarDesk_refusalOfStep 2 (some .int) :: cd_WA) { frames := 1, cells := 0, slots := 0, locals := 20 } [.int x, .ref (x_ad w 8 q)] (cx_dm w) (x_ad w) (cx_ce dA w) (cx_R dA (some (.int (f_CarDesk_refusalOfStep w x q))) w) 0 0 := by
  refine cd_Ct.of b_CarDesk_refusalOfStep 2 (some .int) (by decide) rfl ?_
  intro p e s m below meth c hx hb hr hml hown hlocks hnm hA hE hb0 hW hS ls hl
  have hK := hE.1
  have hl : lv_has ls 2 [(0, .int x), (1, .ref (x_ad w 8 q))] := hl
  refine lv_iload_n hx hb d_CarDesk_refusalOfStep_0 rfl (lv_at hl 0 rfl) ?_
  refine lv_if_ne (tgt := 14) hx hb d_CarDesk_refusalOfStep_1 (by decide) (fun c_1 => ?_) (fun c_1 => ?_)
  · skip
    refine lv_aload_n hx hb d_CarDesk_refusalOfStep_14 rfl (lv_at hl 1 rfl) ?_
    refine cd_getN (ci := 3) (C := R_Thing) (T := F_Thing) (N := 5) (v := .int (x_tu w q)) hx hb hA i_Thing hown hE hW 8 q h_q rfl rfl 2 (by decide) nn_12 rfl rfl d_CarDesk_refusalOfStep_15 ?_
    refine lv_bipush (v := 50) hx hb d_CarDesk_refusalOfStep_18 (by decide) ?_
    refine lv_icmp_lt (tgt := 28) hx hb d_CarDesk_refusalOfStep_20 (by decide) (fun c_2 => ?_) (fun c_2 => ?_)
    · skip
      refine lv_iconst (v := 0) hx hb d_CarDesk_refusalOfStep_28 (by decide) ?_
      have hf : f_CarDesk_refusalOfStep w x q = 0 := by
        simp only [f_CarDesk_refusalOfStep, if_neg c_1, if_pos c_2]
      exact cd_iret hx hb hr hlocks hW hS d_CarDesk_refusalOfStep_29 ⟨by rw [hf], rfl, rfl, rfl⟩ (Nat.le_of_ble_eq_true rfl) (Nat.le_of_ble_eq_true rfl)
    · skip
      refine lv_bipush (v := (-4)) hx hb d_CarDesk_refusalOfStep_23 (by decide) ?_
      refine lv_goto (tgt := 29) hx hb d_CarDesk_refusalOfStep_25 (by decide) ?_
      have hf : f_CarDesk_refusalOfStep w x q = (-4) := by
        simp only [f_CarDesk_refusalOfStep, if_neg c_1, if_neg c_2]
      exact cd_iret hx hb hr hlocks hW hS d_CarDesk_refusalOfStep_29 ⟨by rw [hf], rfl, rfl, rfl⟩ (Nat.le_of_ble_eq_true rfl) (Nat.le_of_ble_eq_true rfl)
  · skip
    refine lv_aload_n hx hb d_CarDesk_refusalOfStep_4 rfl (lv_at hl 1 rfl) ?_
    refine cx_cVN (w0 := w) (x0 := .int (f_Thing_isInUse w q)) (rest := []) (n := 0) ⟨hx, hb, hml, hown, hA⟩ (cd_GA mw_69) hE hb0 hW hS 8 q h_q rfl rfl (c_Thing_isInUse l D dA b0 w q h_q) nn_13 mw_71 mw_72 mw_70 (by decide +kernel) rfl rfl ⟨by decide, by decide⟩ rfl hl.1 rfl (Nat.le_of_ble_eq_true rfl) d_CarDesk_refusalOfStep_5 ⟨by decide, by decide⟩ (fun H locs hW hS => ?_)
    refine lv_if_eq (tgt := 14) hx hb d_CarDesk_refusalOfStep_8 (by decide) (fun c_3 => ?_) (fun c_3 => ?_)
    · skip
      refine lv_aload_n hx hb d_CarDesk_refusalOfStep_14 rfl (lv_at hl 1 rfl) ?_
      refine cd_getN (ci := 3) (C := R_Thing) (T := F_Thing) (N := 5) (v := .int (x_tu w q)) hx hb hA i_Thing hown hE hW 8 q h_q rfl rfl 2 (by decide) nn_12 rfl rfl d_CarDesk_refusalOfStep_15 ?_
      refine lv_bipush (v := 50) hx hb d_CarDesk_refusalOfStep_18 (by decide) ?_
      refine lv_icmp_lt (tgt := 28) hx hb d_CarDesk_refusalOfStep_20 (by decide) (fun c_4 => ?_) (fun c_4 => ?_)
      · skip
        refine lv_iconst (v := 0) hx hb d_CarDesk_refusalOfStep_28 (by decide) ?_
        have hf : f_CarDesk_refusalOfStep w x q = 0 := by
          simp only [f_CarDesk_refusalOfStep, if_pos c_1, if_pos c_3, if_pos c_4]
        exact cd_iret hx hb hr hlocks hW hS d_CarDesk_refusalOfStep_29 ⟨by rw [hf], rfl, rfl, rfl⟩ (Nat.le_of_ble_eq_true rfl) (Nat.le_of_ble_eq_true rfl)
      · skip
        refine lv_bipush (v := (-4)) hx hb d_CarDesk_refusalOfStep_23 (by decide) ?_
        refine lv_goto (tgt := 29) hx hb d_CarDesk_refusalOfStep_25 (by decide) ?_
        have hf : f_CarDesk_refusalOfStep w x q = (-4) := by
          simp only [f_CarDesk_refusalOfStep, if_pos c_1, if_pos c_3, if_neg c_4]
        exact cd_iret hx hb hr hlocks hW hS d_CarDesk_refusalOfStep_29 ⟨by rw [hf], rfl, rfl, rfl⟩ (Nat.le_of_ble_eq_true rfl) (Nat.le_of_ble_eq_true rfl)
    · skip
      refine lv_bipush (v := (-3)) hx hb d_CarDesk_refusalOfStep_11 (by decide) ?_
      have hf : f_CarDesk_refusalOfStep w x q = (-3) := by
        simp only [f_CarDesk_refusalOfStep, if_pos c_1, if_neg c_3]
      exact cd_iret hx hb hr hlocks hW hS d_CarDesk_refusalOfStep_13 ⟨by rw [hf], rfl, rfl, rfl⟩ (Nat.le_of_ble_eq_true rfl) (Nat.le_of_ble_eq_true rfl)

def f_CarDesk_refusalOfCall (w : cx_W) (x : Int32) (o : Option Nat) (y : Int64) : Int32 := cd_oc o (-1) (fun j_2 => if (x / 6) = 3 then (cd_oc (f_CarDesk_thingForCall w x y) (-1) (fun j_7 => if (f_CarDesk_isArgument y) = 0 then (-2) else if (x / 6) = 2 then (f_CarDesk_refusalOfStep w (x - x / 6 * 6) j_2) else 0)) else if (f_CarDesk_isArgument y) = 0 then (-2) else if (x / 6) = 2 then (f_CarDesk_refusalOfStep w (x - x / 6 * 6) j_2) else 0)
set_option maxHeartbeats 4000000 in
set_option maxRecDepth 100000 in
theorem c_CarDesk_refusalOfCall (l : Launch) (D : va_G) (dA : Nat → ClassId) (b0 : Nat) (w : cx_W) (x : Int32) (o : Option Nat) (y : Int64) (hI : cx_Iv w) (h_o : ∀ j, o = some j → x_al w j) : cd_Ct l D (cx_tys dA) b0 y_CarDesk_refusalOfCall (.code y_CarDesk_refusalOfCall b_CarDesk_refusalOfCall 6 (some .int) :: cd_WA) { frames := 3, cells := 0, slots := 0, locals := 68 } [.ref (x_ad w 0 0), .int x, va_rf (o.map (x_ad w 8)), .long y] (cx_dm w) (x_ad w) (cx_ce dA w) (cx_R dA (some (.int (f_CarDesk_refusalOfCall w x o y))) w) 0 0 := by
  refine cd_Ct.of b_CarDesk_refusalOfCall 6 (some .int) (by decide) (by cases o <;> rfl) ?_
  intro p e s m below meth c hx hb hr hml hown hlocks hnm hA hE hb0 hW hS ls hl
  have hK := hE.1
  obtain ⟨o', eo⟩ : ∃ z, o = z := ⟨_, rfl⟩
  have hl : lv_has ls 6 [(0, .ref (x_ad w 0 0)), (1, .int x), (2, va_rf (o'.map (x_ad w 8))), (3, .long y)] := by
    rw [← eo]
    cases o <;> exact hl
  rcases ho_1 : o' with _ | j_2
  · skip
    rw [ho_1] at hl
    have ho_1 : o = none := eo.trans ho_1
    refine lv_aload_nN hx hb d_CarDesk_refusalOfCall_0 rfl (lv_at hl 2 rfl) ?_
    refine lv_ifnonnullN hx hb d_CarDesk_refusalOfCall_1 ?_
    refine lv_iconst (v := (-1)) hx hb d_CarDesk_refusalOfCall_4 (by decide) ?_
    have hf : f_CarDesk_refusalOfCall w x o y = (-1) := by
      simp only [f_CarDesk_refusalOfCall, cd_oc_n ho_1]
    exact cd_iret hx hb hr hlocks hW hS d_CarDesk_refusalOfCall_5 ⟨by rw [hf], rfl, rfl, rfl⟩ (Nat.le_of_ble_eq_true rfl) (Nat.le_of_ble_eq_true rfl)
  · skip
    rw [ho_1] at hl
    have ho_1 : o = some j_2 := eo.trans ho_1
    have h_j_2 : x_al w j_2 := h_o _ ho_1
    refine lv_aload_n hx hb d_CarDesk_refusalOfCall_0 rfl (lv_at hl 2 rfl) ?_
    refine lv_ifnonnull (tgt := 6) hx hb d_CarDesk_refusalOfCall_1 (by decide) ?_
    refine lv_iload_n hx hb d_CarDesk_refusalOfCall_6 rfl (lv_at hl 1 rfl) ?_
    refine lv_bipush (v := 6) hx hb d_CarDesk_refusalOfCall_7 (by decide) ?_
    refine lv_idiv hx hb d_CarDesk_refusalOfCall_9 (by decide) ?_
    refine lv_istore (lv' := [(5, .int (x / 6)), (0, .ref (x_ad w 0 0)), (1, .int x), (2, .ref (x_ad w 8 j_2)), (3, .long y)]) hx hb d_CarDesk_refusalOfCall_10 hl (by decide) rfl (fun ls hl => ?_)
    refine lv_iload hx hb d_CarDesk_refusalOfCall_12 (lv_at hl 0 rfl) ?_
    refine lv_iconst (v := 3) hx hb d_CarDesk_refusalOfCall_14 (by decide) ?_
    refine lv_icmp_ne (tgt := 29) hx hb d_CarDesk_refusalOfCall_15 (by decide) (fun c_3 => ?_) (fun c_3 => ?_)
    · skip
      refine lv_lload_n hx hb d_CarDesk_refusalOfCall_29 rfl (lv_at hl 4 rfl) ?_
      refine cx_cS (w0 := w) (x0 := .int (f_CarDesk_isArgument y)) (rest := []) (n := 1) ⟨hx, hb, hml, hown, hA⟩ (cd_GA mw_73) hE hb0 hW hS (c_CarDesk_isArgument l D dA b0 w y) mw_75 mw_74 mw_32 (by decide +kernel) rfl rfl ⟨by decide, by decide⟩ rfl hl.1 rfl (Nat.le_of_ble_eq_true rfl) d_CarDesk_refusalOfCall_30 ⟨by decide, by decide⟩ (fun H locs hW hS => ?_)
      refine lv_if_ne (tgt := 39) hx hb d_CarDesk_refusalOfCall_33 (by decide) (fun c_4 => ?_) (fun c_4 => ?_)
      · skip
        refine lv_iload hx hb d_CarDesk_refusalOfCall_39 (lv_at hl 0 rfl) ?_
        refine lv_iconst (v := 2) hx hb d_CarDesk_refusalOfCall_41 (by decide) ?_
        refine lv_icmp_ne (tgt := 56) hx hb d_CarDesk_refusalOfCall_42 (by decide) (fun c_5 => ?_) (fun c_5 => ?_)
        · skip
          refine lv_iconst (v := 0) hx hb d_CarDesk_refusalOfCall_56 (by decide) ?_
          have hf : f_CarDesk_refusalOfCall w x o y = 0 := by
            simp only [f_CarDesk_refusalOfCall, cd_oc_s ho_1, if_neg c_3, if_neg c_4, if_neg c_5]
          exact cd_iret hx hb hr hlocks hW hS d_CarDesk_refusalOfCall_57 ⟨by rw [hf], rfl, rfl, rfl⟩ (Nat.le_of_ble_eq_true rfl) (Nat.le_of_ble_eq_true rfl)
        · skip
          refine lv_iload_n hx hb d_CarDesk_refusalOfCall_45 rfl (lv_at hl 2 rfl) ?_
          refine lv_bipush (v := 6) hx hb d_CarDesk_refusalOfCall_46 (by decide) ?_
          refine lv_irem hx hb d_CarDesk_refusalOfCall_48 (by decide) ?_
          refine lv_aload_n hx hb d_CarDesk_refusalOfCall_49 rfl (lv_at hl 3 rfl) ?_
          refine cx_cS (w0 := w) (x0 := .int (f_CarDesk_refusalOfStep w (x - x / 6 * 6) j_2)) (rest := []) (n := 2) ⟨hx, hb, hml, hown, hA⟩ (cd_GA mw_76) hE hb0 hW hS (c_CarDesk_refusalOfStep l D dA b0 w (x - x / 6 * 6) j_2 h_j_2) mw_78 mw_77 mw_32 (by decide +kernel) rfl rfl ⟨by decide, by decide⟩ rfl hl.1 rfl (Nat.le_of_ble_eq_true rfl) d_CarDesk_refusalOfCall_50 ⟨by decide, by decide⟩ (fun H locs hW hS => ?_)
          refine lv_goto (tgt := 57) hx hb d_CarDesk_refusalOfCall_53 (by decide) ?_
          have hf : f_CarDesk_refusalOfCall w x o y = (f_CarDesk_refusalOfStep w (x - x / 6 * 6) j_2) := by
            simp only [f_CarDesk_refusalOfCall, cd_oc_s ho_1, if_neg c_3, if_neg c_4, if_pos c_5]
          exact cd_iret hx hb hr hlocks hW hS d_CarDesk_refusalOfCall_57 ⟨by rw [hf], rfl, rfl, rfl⟩ (Nat.le_of_ble_eq_true rfl) (Nat.le_of_ble_eq_true rfl)
      · skip
        refine lv_bipush (v := (-2)) hx hb d_CarDesk_refusalOfCall_36 (by decide) ?_
        have hf : f_CarDesk_refusalOfCall w x o y = (-2) := by
          simp only [f_CarDesk_refusalOfCall, cd_oc_s ho_1, if_neg c_3, if_pos c_4]
        exact cd_iret hx hb hr hlocks hW hS d_CarDesk_refusalOfCall_38 ⟨by rw [hf], rfl, rfl, rfl⟩ (Nat.le_of_ble_eq_true rfl) (Nat.le_of_ble_eq_true rfl)
    · skip
      refine lv_aload_n hx hb d_CarDesk_refusalOfCall_18 rfl (lv_at hl 1 rfl) ?_
      refine lv_iload_n hx hb d_CarDesk_refusalOfCall_19 rfl (lv_at hl 2 rfl) ?_
      refine lv_lload_n hx hb d_CarDesk_refusalOfCall_20 rfl (lv_at hl 4 rfl) ?_
      refine cx_cV (w0 := w) (x0 := va_rf ((f_CarDesk_thingForCall w x y).map (x_ad w 8))) (rest := []) (n := 2) ⟨hx, hb, hml, hown, hA⟩ (cd_GA mw_79) hE hb0 hW hS 0 0 rfl rfl rfl (c_CarDesk_thingForCall l D dA b0 w x y hI) mw_82 mw_80 mw_81 mw_32 (by decide +kernel) rfl rfl ⟨by decide, by decide⟩ rfl hl.1 rfl (Nat.le_of_ble_eq_true rfl) d_CarDesk_refusalOfCall_21 ⟨by decide, by decide⟩ (fun H locs hW hS => ?_)
      rcases ho_6 : (f_CarDesk_thingForCall w x y) with _ | j_7
      · skip
        refine lv_ifnonnullN hx hb d_CarDesk_refusalOfCall_24 ?_
        refine lv_iconst (v := (-1)) hx hb d_CarDesk_refusalOfCall_27 (by decide) ?_
        have hf : f_CarDesk_refusalOfCall w x o y = (-1) := by
          simp only [f_CarDesk_refusalOfCall, cd_oc_s ho_1, if_pos c_3, cd_oc_n ho_6]
        exact cd_iret hx hb hr hlocks hW hS d_CarDesk_refusalOfCall_28 ⟨by rw [hf], rfl, rfl, rfl⟩ (Nat.le_of_ble_eq_true rfl) (Nat.le_of_ble_eq_true rfl)
      · skip
        have h_j_7 : x_al w j_7 := al_thingForCall hI ho_6
        refine lv_ifnonnull (tgt := 29) hx hb d_CarDesk_refusalOfCall_24 (by decide) ?_
        refine lv_lload_n hx hb d_CarDesk_refusalOfCall_29 rfl (lv_at hl 4 rfl) ?_
        refine cx_cS (w0 := w) (x0 := .int (f_CarDesk_isArgument y)) (rest := []) (n := 1) ⟨hx, hb, hml, hown, hA⟩ (cd_GA mw_73) hE hb0 hW hS (c_CarDesk_isArgument l D dA b0 w y) mw_75 mw_74 mw_32 (by decide +kernel) rfl rfl ⟨by decide, by decide⟩ rfl hl.1 rfl (Nat.le_of_ble_eq_true rfl) d_CarDesk_refusalOfCall_30 ⟨by decide, by decide⟩ (fun H locs hW hS => ?_)
        refine lv_if_ne (tgt := 39) hx hb d_CarDesk_refusalOfCall_33 (by decide) (fun c_8 => ?_) (fun c_8 => ?_)
        · skip
          refine lv_iload hx hb d_CarDesk_refusalOfCall_39 (lv_at hl 0 rfl) ?_
          refine lv_iconst (v := 2) hx hb d_CarDesk_refusalOfCall_41 (by decide) ?_
          refine lv_icmp_ne (tgt := 56) hx hb d_CarDesk_refusalOfCall_42 (by decide) (fun c_9 => ?_) (fun c_9 => ?_)
          · skip
            refine lv_iconst (v := 0) hx hb d_CarDesk_refusalOfCall_56 (by decide) ?_
            have hf : f_CarDesk_refusalOfCall w x o y = 0 := by
              simp only [f_CarDesk_refusalOfCall, cd_oc_s ho_1, if_pos c_3, cd_oc_s ho_6, if_neg c_8, if_neg c_9]
            exact cd_iret hx hb hr hlocks hW hS d_CarDesk_refusalOfCall_57 ⟨by rw [hf], rfl, rfl, rfl⟩ (Nat.le_of_ble_eq_true rfl) (Nat.le_of_ble_eq_true rfl)
          · skip
            refine lv_iload_n hx hb d_CarDesk_refusalOfCall_45 rfl (lv_at hl 2 rfl) ?_
            refine lv_bipush (v := 6) hx hb d_CarDesk_refusalOfCall_46 (by decide) ?_
            refine lv_irem hx hb d_CarDesk_refusalOfCall_48 (by decide) ?_
            refine lv_aload_n hx hb d_CarDesk_refusalOfCall_49 rfl (lv_at hl 3 rfl) ?_
            refine cx_cS (w0 := w) (x0 := .int (f_CarDesk_refusalOfStep w (x - x / 6 * 6) j_2)) (rest := []) (n := 2) ⟨hx, hb, hml, hown, hA⟩ (cd_GA mw_76) hE hb0 hW hS (c_CarDesk_refusalOfStep l D dA b0 w (x - x / 6 * 6) j_2 h_j_2) mw_78 mw_77 mw_32 (by decide +kernel) rfl rfl ⟨by decide, by decide⟩ rfl hl.1 rfl (Nat.le_of_ble_eq_true rfl) d_CarDesk_refusalOfCall_50 ⟨by decide, by decide⟩ (fun H locs hW hS => ?_)
            refine lv_goto (tgt := 57) hx hb d_CarDesk_refusalOfCall_53 (by decide) ?_
            have hf : f_CarDesk_refusalOfCall w x o y = (f_CarDesk_refusalOfStep w (x - x / 6 * 6) j_2) := by
              simp only [f_CarDesk_refusalOfCall, cd_oc_s ho_1, if_pos c_3, cd_oc_s ho_6, if_neg c_8, if_pos c_9]
            exact cd_iret hx hb hr hlocks hW hS d_CarDesk_refusalOfCall_57 ⟨by rw [hf], rfl, rfl, rfl⟩ (Nat.le_of_ble_eq_true rfl) (Nat.le_of_ble_eq_true rfl)
        · skip
          refine lv_bipush (v := (-2)) hx hb d_CarDesk_refusalOfCall_36 (by decide) ?_
          have hf : f_CarDesk_refusalOfCall w x o y = (-2) := by
            simp only [f_CarDesk_refusalOfCall, cd_oc_s ho_1, if_pos c_3, cd_oc_s ho_6, if_pos c_8]
          exact cd_iret hx hb hr hlocks hW hS d_CarDesk_refusalOfCall_38 ⟨by rw [hf], rfl, rfl, rfl⟩ (Nat.le_of_ble_eq_true rfl) (Nat.le_of_ble_eq_true rfl)

def f_CarDesk_steppedState (w : cx_W) (x : Int32) (q : Nat) (y : Int64) : Int64 := if (x - x / 6 * 6) = 0 then ((x_st w q) ^^^ y) else if (x - x / 6 * 6) = 1 then (((31 * (x_st w q)) + y) + (x_ans w x.toNatClampNeg)) else if (x - x / 6 * 6) = 2 then (f_CarDesk_turnedLeft (x_st w q) ((y &&& 63).toInt32)) else if (x - x / 6 * 6) = 3 then (((x_st w q) + (f_Thing_stateOfSource w q)) + y) else if (x - x / 6 * 6) = 4 then ((x_st w q) + (y * (x_ans w x.toNatClampNeg))) else ((f_Shelf_sumOfStates w 1) + y)
set_option maxHeartbeats 4000000 in
set_option maxRecDepth 100000 in
theorem c_CarDesk_steppedState (l : Launch) (D : va_G) (dA : Nat → ClassId) (b0 : Nat) (w : cx_W) (x : Int32) (q : Nat) (y : Int64) (hI : cx_Iv w) (h_q : x_al w q) (hcl : vp_in x 24) : cd_Ct l D (cx_tys dA) b0 y_CarDesk_steppedState (.code y_CarDesk_steppedState b_CarDesk_steppedState 5 (some .long) :: cd_WA) { frames := 2, cells := 0, slots := 0, locals := 46 } [.ref (x_ad w 0 0), .int x, .ref (x_ad w 8 q), .long y] (cx_dm w) (x_ad w) (cx_ce dA w) (cx_R dA (some (.long (f_CarDesk_steppedState w x q y))) w) 0 0 := by
  refine cd_Ct.of b_CarDesk_steppedState 5 (some .long) (by decide) rfl ?_
  intro p e s m below meth c hx hb hr hml hown hlocks hnm hA hE hb0 hW hS ls hl
  have hK := hE.1
  have hl : lv_has ls 5 [(0, .ref (x_ad w 0 0)), (1, .int x), (2, .ref (x_ad w 8 q)), (3, .long y)] := hl
  refine lv_iload_n hx hb d_CarDesk_steppedState_0 rfl (lv_at hl 1 rfl) ?_
  refine lv_bipush (v := 6) hx hb d_CarDesk_steppedState_1 (by decide) ?_
  refine lv_irem hx hb d_CarDesk_steppedState_3 (by decide) ?_
  refine lv_topi (fun z_1 ez_1 => ?_)
  by_cases h_2 : z_1 = 0
  · skip
    subst h_2
    have c_3 : (x - x / 6 * 6) = 0 := ez_1.symm
    refine lv_tableIn (tgt := 40) (off := 36) hx hb d_CarDesk_steppedState_4 (by decide) (by decide) (by decide) (by decide) ?_
    refine lv_aload_n hx hb d_CarDesk_steppedState_40 rfl (lv_at hl 2 rfl) ?_
    refine cd_getN (ci := 3) (C := R_Thing) (T := F_Thing) (N := 5) (v := .long (x_st w q)) hx hb hA i_Thing hown hE hW 8 q h_q rfl rfl 1 (by decide) nn_5 rfl rfl d_CarDesk_steppedState_41 ?_
    refine lv_lload_n hx hb d_CarDesk_steppedState_44 rfl (lv_at hl 3 rfl) ?_
    refine lv_lxor hx hb d_CarDesk_steppedState_45 ?_
    have hf : f_CarDesk_steppedState w x q y = ((x_st w q) ^^^ y) := by
      simp only [f_CarDesk_steppedState, if_pos c_3]
    exact cd_lret hx hb hr hlocks hW hS d_CarDesk_steppedState_46 ⟨by rw [hf], rfl, rfl, rfl⟩ (Nat.le_of_ble_eq_true rfl) (Nat.le_of_ble_eq_true rfl)
  · skip
    have c_4 : ¬ (x - x / 6 * 6) = 0 := fun q => h_2 (ez_1.trans q)
    by_cases h_5 : z_1 = 1
    · skip
      subst h_5
      have c_6 : (x - x / 6 * 6) = 1 := ez_1.symm
      refine lv_tableIn (tgt := 47) (off := 43) hx hb d_CarDesk_steppedState_4 (by decide) (by decide) (by decide) (by decide) ?_
      refine lv_ldc2 (v := 31) hx hb hown (hA _ mw_83) d_CarDesk_steppedState_47 ?_
      refine lv_aload_n hx hb d_CarDesk_steppedState_50 rfl (lv_at hl 2 rfl) ?_
      refine cd_getN (ci := 3) (C := R_Thing) (T := F_Thing) (N := 5) (v := .long (x_st w q)) hx hb hA i_Thing hown hE hW 8 q h_q rfl rfl 1 (by decide) nn_5 rfl rfl d_CarDesk_steppedState_51 ?_
      refine lv_lmul hx hb d_CarDesk_steppedState_54 ?_
      refine lv_lload_n hx hb d_CarDesk_steppedState_55 rfl (lv_at hl 3 rfl) ?_
      refine lv_ladd hx hb d_CarDesk_steppedState_56 ?_
      refine lv_aload_n hx hb d_CarDesk_steppedState_57 rfl (lv_at hl 0 rfl) ?_
      refine cd_get (ci := 0) (C := R_CarDesk) (T := F_CarDesk) (N := 14) (v := .ref (x_ad w 6 0)) hx hb hA i_CarDesk hown hK hW 0 0 rfl rfl rfl 4 (by decide) mw_84 rfl rfl d_CarDesk_steppedState_58 ?_
      refine lv_iload_n hx hb d_CarDesk_steppedState_61 rfl (lv_at hl 1 rfl) ?_
      refine cd_lald hx hb hK hW 6 0 rfl 1 rfl rfl hcl d_CarDesk_steppedState_62 ?_
      refine lv_ladd hx hb d_CarDesk_steppedState_63 ?_
      have hf : f_CarDesk_steppedState w x q y = (((31 * (x_st w q)) + y) + (x_ans w x.toNatClampNeg)) := by
        simp only [f_CarDesk_steppedState, if_neg c_4, if_pos c_6]
      exact cd_lret hx hb hr hlocks hW hS d_CarDesk_steppedState_64 ⟨by rw [hf], rfl, rfl, rfl⟩ (Nat.le_of_ble_eq_true rfl) (Nat.le_of_ble_eq_true rfl)
    · skip
      have c_7 : ¬ (x - x / 6 * 6) = 1 := fun q => h_5 (ez_1.trans q)
      by_cases h_8 : z_1 = 2
      · skip
        subst h_8
        have c_9 : (x - x / 6 * 6) = 2 := ez_1.symm
        refine lv_tableIn (tgt := 65) (off := 61) hx hb d_CarDesk_steppedState_4 (by decide) (by decide) (by decide) (by decide) ?_
        refine lv_aload_n hx hb d_CarDesk_steppedState_65 rfl (lv_at hl 2 rfl) ?_
        refine cd_getN (ci := 3) (C := R_Thing) (T := F_Thing) (N := 5) (v := .long (x_st w q)) hx hb hA i_Thing hown hE hW 8 q h_q rfl rfl 1 (by decide) nn_5 rfl rfl d_CarDesk_steppedState_66 ?_
        refine lv_lload_n hx hb d_CarDesk_steppedState_69 rfl (lv_at hl 3 rfl) ?_
        refine lv_ldc2 (v := 63) hx hb hown (hA _ mw_85) d_CarDesk_steppedState_70 ?_
        refine lv_land hx hb d_CarDesk_steppedState_73 ?_
        refine lv_l2i hx hb d_CarDesk_steppedState_74 rfl ?_
        refine cx_cS (w0 := w) (x0 := .long (f_CarDesk_turnedLeft (x_st w q) ((y &&& 63).toInt32))) (rest := []) (n := 2) ⟨hx, hb, hml, hown, hA⟩ (cd_GA mw_86) hE hb0 hW hS (c_CarDesk_turnedLeft l D dA b0 w (x_st w q) ((y &&& 63).toInt32)) mw_88 mw_87 mw_32 (by decide +kernel) rfl rfl ⟨by decide, by decide⟩ rfl hl.1 rfl (Nat.le_of_ble_eq_true rfl) d_CarDesk_steppedState_75 ⟨by decide, by decide⟩ (fun H locs hW hS => ?_)
        have hf : f_CarDesk_steppedState w x q y = (f_CarDesk_turnedLeft (x_st w q) ((y &&& 63).toInt32)) := by
          simp only [f_CarDesk_steppedState, if_neg c_4, if_neg c_7, if_pos c_9]
        exact cd_lret hx hb hr hlocks hW hS d_CarDesk_steppedState_78 ⟨by rw [hf], rfl, rfl, rfl⟩ (Nat.le_of_ble_eq_true rfl) (Nat.le_of_ble_eq_true rfl)
      · skip
        have c_10 : ¬ (x - x / 6 * 6) = 2 := fun q => h_8 (ez_1.trans q)
        by_cases h_11 : z_1 = 3
        · skip
          subst h_11
          have c_12 : (x - x / 6 * 6) = 3 := ez_1.symm
          refine lv_tableIn (tgt := 79) (off := 75) hx hb d_CarDesk_steppedState_4 (by decide) (by decide) (by decide) (by decide) ?_
          refine lv_aload_n hx hb d_CarDesk_steppedState_79 rfl (lv_at hl 2 rfl) ?_
          refine cd_getN (ci := 3) (C := R_Thing) (T := F_Thing) (N := 5) (v := .long (x_st w q)) hx hb hA i_Thing hown hE hW 8 q h_q rfl rfl 1 (by decide) nn_5 rfl rfl d_CarDesk_steppedState_80 ?_
          refine lv_aload_n hx hb d_CarDesk_steppedState_83 rfl (lv_at hl 2 rfl) ?_
          refine cx_cVN (w0 := w) (x0 := .long (f_Thing_stateOfSource w q)) (rest := [.long (x_st w q)]) (n := 0) ⟨hx, hb, hml, hown, hA⟩ (cd_GA mw_89) hE hb0 hW hS 8 q h_q rfl rfl (c_Thing_stateOfSource l D dA b0 w q h_q hI) nn_14 mw_90 mw_91 mw_70 (by decide +kernel) rfl rfl ⟨by decide, by decide⟩ rfl hl.1 rfl (Nat.le_of_ble_eq_true rfl) d_CarDesk_steppedState_84 ⟨by decide, by decide⟩ (fun H locs hW hS => ?_)
          refine lv_ladd hx hb d_CarDesk_steppedState_87 ?_
          refine lv_lload_n hx hb d_CarDesk_steppedState_88 rfl (lv_at hl 3 rfl) ?_
          refine lv_ladd hx hb d_CarDesk_steppedState_89 ?_
          have hf : f_CarDesk_steppedState w x q y = (((x_st w q) + (f_Thing_stateOfSource w q)) + y) := by
            simp only [f_CarDesk_steppedState, if_neg c_4, if_neg c_7, if_neg c_10, if_pos c_12]
          exact cd_lret hx hb hr hlocks hW hS d_CarDesk_steppedState_90 ⟨by rw [hf], rfl, rfl, rfl⟩ (Nat.le_of_ble_eq_true rfl) (Nat.le_of_ble_eq_true rfl)
        · skip
          have c_13 : ¬ (x - x / 6 * 6) = 3 := fun q => h_11 (ez_1.trans q)
          by_cases h_14 : z_1 = 4
          · skip
            subst h_14
            have c_15 : (x - x / 6 * 6) = 4 := ez_1.symm
            refine lv_tableIn (tgt := 91) (off := 87) hx hb d_CarDesk_steppedState_4 (by decide) (by decide) (by decide) (by decide) ?_
            refine lv_aload_n hx hb d_CarDesk_steppedState_91 rfl (lv_at hl 2 rfl) ?_
            refine cd_getN (ci := 3) (C := R_Thing) (T := F_Thing) (N := 5) (v := .long (x_st w q)) hx hb hA i_Thing hown hE hW 8 q h_q rfl rfl 1 (by decide) nn_5 rfl rfl d_CarDesk_steppedState_92 ?_
            refine lv_lload_n hx hb d_CarDesk_steppedState_95 rfl (lv_at hl 3 rfl) ?_
            refine lv_aload_n hx hb d_CarDesk_steppedState_96 rfl (lv_at hl 0 rfl) ?_
            refine cd_get (ci := 0) (C := R_CarDesk) (T := F_CarDesk) (N := 14) (v := .ref (x_ad w 6 0)) hx hb hA i_CarDesk hown hK hW 0 0 rfl rfl rfl 4 (by decide) mw_84 rfl rfl d_CarDesk_steppedState_97 ?_
            refine lv_iload_n hx hb d_CarDesk_steppedState_100 rfl (lv_at hl 1 rfl) ?_
            refine cd_lald hx hb hK hW 6 0 rfl 1 rfl rfl hcl d_CarDesk_steppedState_101 ?_
            refine lv_lmul hx hb d_CarDesk_steppedState_102 ?_
            refine lv_ladd hx hb d_CarDesk_steppedState_103 ?_
            have hf : f_CarDesk_steppedState w x q y = ((x_st w q) + (y * (x_ans w x.toNatClampNeg))) := by
              simp only [f_CarDesk_steppedState, if_neg c_4, if_neg c_7, if_neg c_10, if_neg c_13, if_pos c_15]
            exact cd_lret hx hb hr hlocks hW hS d_CarDesk_steppedState_104 ⟨by rw [hf], rfl, rfl, rfl⟩ (Nat.le_of_ble_eq_true rfl) (Nat.le_of_ble_eq_true rfl)
          · skip
            have c_16 : ¬ (x - x / 6 * 6) = 4 := fun q => h_14 (ez_1.trans q)
            refine lv_tableOut (tgt := 105) hx hb d_CarDesk_steppedState_4 (by have g0 := cd_ne 0 0 (by decide) h_2; have g1 := cd_ne 1 1 (by decide) h_5; have g2 := cd_ne 2 2 (by decide) h_8; have g3 := cd_ne 3 3 (by decide) h_11; have g4 := cd_ne 4 4 (by decide) h_14; omega) (by decide) ?_
            refine lv_aload_n hx hb d_CarDesk_steppedState_105 rfl (lv_at hl 0 rfl) ?_
            refine cd_get (ci := 0) (C := R_CarDesk) (T := F_CarDesk) (N := 14) (v := .ref (x_ad w 3 0)) hx hb hA i_CarDesk hown hK hW 0 0 rfl rfl rfl 3 (by decide) mw_36 rfl rfl d_CarDesk_steppedState_106 ?_
            refine lv_iconst (v := 1) hx hb d_CarDesk_steppedState_109 (by decide) ?_
            refine cd_aald hx hb hK hW 3 0 rfl 2 rfl rfl (vp_in_nI (n := 1) (by decide) (by decide)) d_CarDesk_steppedState_110 ?_
            rw [show ((1 : Int32)).toNatClampNeg = 1 by decide]
            refine cx_cVN (w0 := w) (x0 := .long (f_Shelf_sumOfStates w 1)) (rest := []) (n := 0) ⟨hx, hb, hml, hown, hA⟩ (cd_GA mw_92) hE hb0 hW hS 4 1 (show (1 : Nat) < 6 from by decide) rfl rfl (c_Shelf_sumOfStates l D dA b0 w 1 (show (1 : Nat) < 6 from by decide) hI) nn_15 mw_93 mw_94 mw_13 (by decide +kernel) rfl rfl ⟨by decide, by decide⟩ rfl hl.1 rfl (Nat.le_of_ble_eq_true rfl) d_CarDesk_steppedState_111 ⟨by decide, by decide⟩ (fun H locs hW hS => ?_)
            refine lv_lload_n hx hb d_CarDesk_steppedState_114 rfl (lv_at hl 3 rfl) ?_
            refine lv_ladd hx hb d_CarDesk_steppedState_115 ?_
            have hf : f_CarDesk_steppedState w x q y = ((f_Shelf_sumOfStates w 1) + y) := by
              simp only [f_CarDesk_steppedState, if_neg c_4, if_neg c_7, if_neg c_10, if_neg c_13, if_neg c_16]
            exact cd_lret hx hb hr hlocks hW hS d_CarDesk_steppedState_116 ⟨by rw [hf], rfl, rfl, rfl⟩ (Nat.le_of_ble_eq_true rfl) (Nat.le_of_ble_eq_true rfl)

def f_CarDesk_outcomeOfCall (w : cx_W) (x : Int32) (q : Nat) (y : Int64) : Int64 := if (x / 6) = 0 then ((x_st w q) + (x_ans w x.toNatClampNeg)) else if (x / 6) = 1 then (x_st w q) else if (x / 6) = 2 then (((x_tu w q) + 1).toInt64) else cd_oc (f_CarDesk_thingForCall w x y) ((f_Thing_comparedWith w q none).toInt64) (fun j_12 => (f_Thing_comparedWith w q (some j_12)).toInt64)
set_option maxHeartbeats 4000000 in
set_option maxRecDepth 100000 in
theorem c_CarDesk_outcomeOfCall (l : Launch) (D : va_G) (dA : Nat → ClassId) (b0 : Nat) (w : cx_W) (x : Int32) (q : Nat) (y : Int64) (hI : cx_Iv w) (h_q : x_al w q) (hcl : vp_in x 24) : cd_Ct l D (cx_tys dA) b0 y_CarDesk_outcomeOfCall (.code y_CarDesk_outcomeOfCall b_CarDesk_outcomeOfCall 5 (some .long) :: cd_WA) { frames := 3, cells := 0, slots := 0, locals := 68 } [.ref (x_ad w 0 0), .int x, .ref (x_ad w 8 q), .long y] (cx_dm w) (x_ad w) (cx_ce dA w) (cx_R dA (some (.long (f_CarDesk_outcomeOfCall w x q y))) w) 0 0 := by
  refine cd_Ct.of b_CarDesk_outcomeOfCall 5 (some .long) (by decide) rfl ?_
  intro p e s m below meth c hx hb hr hml hown hlocks hnm hA hE hb0 hW hS ls hl
  have hK := hE.1
  have hl : lv_has ls 5 [(0, .ref (x_ad w 0 0)), (1, .int x), (2, .ref (x_ad w 8 q)), (3, .long y)] := hl
  refine lv_iload_n hx hb d_CarDesk_outcomeOfCall_0 rfl (lv_at hl 1 rfl) ?_
  refine lv_bipush (v := 6) hx hb d_CarDesk_outcomeOfCall_1 (by decide) ?_
  refine lv_idiv hx hb d_CarDesk_outcomeOfCall_3 (by decide) ?_
  refine lv_topi (fun z_1 ez_1 => ?_)
  by_cases h_2 : z_1 = 0
  · skip
    subst h_2
    have c_3 : (x / 6) = 0 := ez_1.symm
    refine lv_tableIn (tgt := 32) (off := 28) hx hb d_CarDesk_outcomeOfCall_4 (by decide) (by decide) (by decide) (by decide) ?_
    refine lv_aload_n hx hb d_CarDesk_outcomeOfCall_32 rfl (lv_at hl 2 rfl) ?_
    refine cd_getN (ci := 3) (C := R_Thing) (T := F_Thing) (N := 5) (v := .long (x_st w q)) hx hb hA i_Thing hown hE hW 8 q h_q rfl rfl 1 (by decide) nn_5 rfl rfl d_CarDesk_outcomeOfCall_33 ?_
    refine lv_aload_n hx hb d_CarDesk_outcomeOfCall_36 rfl (lv_at hl 0 rfl) ?_
    refine cd_get (ci := 0) (C := R_CarDesk) (T := F_CarDesk) (N := 14) (v := .ref (x_ad w 6 0)) hx hb hA i_CarDesk hown hK hW 0 0 rfl rfl rfl 4 (by decide) mw_84 rfl rfl d_CarDesk_outcomeOfCall_37 ?_
    refine lv_iload_n hx hb d_CarDesk_outcomeOfCall_40 rfl (lv_at hl 1 rfl) ?_
    refine cd_lald hx hb hK hW 6 0 rfl 1 rfl rfl hcl d_CarDesk_outcomeOfCall_41 ?_
    refine lv_ladd hx hb d_CarDesk_outcomeOfCall_42 ?_
    have hf : f_CarDesk_outcomeOfCall w x q y = ((x_st w q) + (x_ans w x.toNatClampNeg)) := by
      simp only [f_CarDesk_outcomeOfCall, if_pos c_3]
    exact cd_lret hx hb hr hlocks hW hS d_CarDesk_outcomeOfCall_43 ⟨by rw [hf], rfl, rfl, rfl⟩ (Nat.le_of_ble_eq_true rfl) (Nat.le_of_ble_eq_true rfl)
  · skip
    have c_4 : ¬ (x / 6) = 0 := fun q => h_2 (ez_1.trans q)
    by_cases h_5 : z_1 = 1
    · skip
      subst h_5
      have c_6 : (x / 6) = 1 := ez_1.symm
      refine lv_tableIn (tgt := 44) (off := 40) hx hb d_CarDesk_outcomeOfCall_4 (by decide) (by decide) (by decide) (by decide) ?_
      refine lv_aload_n hx hb d_CarDesk_outcomeOfCall_44 rfl (lv_at hl 2 rfl) ?_
      refine cd_getN (ci := 3) (C := R_Thing) (T := F_Thing) (N := 5) (v := .long (x_st w q)) hx hb hA i_Thing hown hE hW 8 q h_q rfl rfl 1 (by decide) nn_5 rfl rfl d_CarDesk_outcomeOfCall_45 ?_
      have hf : f_CarDesk_outcomeOfCall w x q y = (x_st w q) := by
        simp only [f_CarDesk_outcomeOfCall, if_neg c_4, if_pos c_6]
      exact cd_lret hx hb hr hlocks hW hS d_CarDesk_outcomeOfCall_48 ⟨by rw [hf], rfl, rfl, rfl⟩ (Nat.le_of_ble_eq_true rfl) (Nat.le_of_ble_eq_true rfl)
    · skip
      have c_7 : ¬ (x / 6) = 1 := fun q => h_5 (ez_1.trans q)
      by_cases h_8 : z_1 = 2
      · skip
        subst h_8
        have c_9 : (x / 6) = 2 := ez_1.symm
        refine lv_tableIn (tgt := 49) (off := 45) hx hb d_CarDesk_outcomeOfCall_4 (by decide) (by decide) (by decide) (by decide) ?_
        refine lv_aload_n hx hb d_CarDesk_outcomeOfCall_49 rfl (lv_at hl 2 rfl) ?_
        refine cd_getN (ci := 3) (C := R_Thing) (T := F_Thing) (N := 5) (v := .int (x_tu w q)) hx hb hA i_Thing hown hE hW 8 q h_q rfl rfl 2 (by decide) nn_12 rfl rfl d_CarDesk_outcomeOfCall_50 ?_
        refine lv_iconst (v := 1) hx hb d_CarDesk_outcomeOfCall_53 (by decide) ?_
        refine lv_iadd hx hb d_CarDesk_outcomeOfCall_54 ?_
        refine lv_i2l hx hb d_CarDesk_outcomeOfCall_55 rfl ?_
        have hf : f_CarDesk_outcomeOfCall w x q y = ((x_tu w q) + 1).toInt64 := by
          simp only [f_CarDesk_outcomeOfCall, if_neg c_4, if_neg c_7, if_pos c_9]
        exact cd_lret hx hb hr hlocks hW hS d_CarDesk_outcomeOfCall_56 ⟨by rw [hf], rfl, rfl, rfl⟩ (Nat.le_of_ble_eq_true rfl) (Nat.le_of_ble_eq_true rfl)
      · skip
        have c_10 : ¬ (x / 6) = 2 := fun q => h_8 (ez_1.trans q)
        refine lv_tableOut (tgt := 57) hx hb d_CarDesk_outcomeOfCall_4 (by have g0 := cd_ne 0 0 (by decide) h_2; have g1 := cd_ne 1 1 (by decide) h_5; have g2 := cd_ne 2 2 (by decide) h_8; omega) (by decide) ?_
        refine lv_aload_n hx hb d_CarDesk_outcomeOfCall_57 rfl (lv_at hl 2 rfl) ?_
        refine lv_aload_n hx hb d_CarDesk_outcomeOfCall_58 rfl (lv_at hl 0 rfl) ?_
        refine lv_iload_n hx hb d_CarDesk_outcomeOfCall_59 rfl (lv_at hl 1 rfl) ?_
        refine lv_lload_n hx hb d_CarDesk_outcomeOfCall_60 rfl (lv_at hl 3 rfl) ?_
        refine cx_cV (w0 := w) (x0 := va_rf ((f_CarDesk_thingForCall w x y).map (x_ad w 8))) (rest := [.ref (x_ad w 8 q)]) (n := 2) ⟨hx, hb, hml, hown, hA⟩ (cd_GA mw_79) hE hb0 hW hS 0 0 rfl rfl rfl (c_CarDesk_thingForCall l D dA b0 w x y hI) mw_82 mw_80 mw_81 mw_32 (by decide +kernel) rfl rfl ⟨by decide, by decide⟩ rfl hl.1 rfl (Nat.le_of_ble_eq_true rfl) d_CarDesk_outcomeOfCall_61 ⟨by decide, by decide⟩ (fun H locs hW hS => ?_)
        rcases ho_11 : (f_CarDesk_thingForCall w x y) with _ | j_12
        · skip
          refine cx_cVN (w0 := w) (x0 := .int (f_Thing_comparedWith w q none)) (rest := []) (n := 1) ⟨hx, hb, hml, hown, hA⟩ (cd_GA mw_95) hE hb0 hW hS 8 q h_q rfl rfl (c_Thing_comparedWith l D dA b0 w q none h_q (fun _ h => nomatch h)) nn_16 mw_96 mw_97 mw_70 (by decide +kernel) rfl rfl ⟨by decide, by decide⟩ rfl hl.1 rfl (Nat.le_of_ble_eq_true rfl) d_CarDesk_outcomeOfCall_64 ⟨by decide, by decide⟩ (fun H locs hW hS => ?_)
          refine lv_i2l hx hb d_CarDesk_outcomeOfCall_67 rfl ?_
          have hf : f_CarDesk_outcomeOfCall w x q y = (f_Thing_comparedWith w q none).toInt64 := by
            simp only [f_CarDesk_outcomeOfCall, if_neg c_4, if_neg c_7, if_neg c_10, cd_oc_n ho_11]
          exact cd_lret hx hb hr hlocks hW hS d_CarDesk_outcomeOfCall_68 ⟨by rw [hf], rfl, rfl, rfl⟩ (Nat.le_of_ble_eq_true rfl) (Nat.le_of_ble_eq_true rfl)
        · skip
          have h_j_12 : x_al w j_12 := al_thingForCall hI ho_11
          refine cx_cVN (w0 := w) (x0 := .int (f_Thing_comparedWith w q (some j_12))) (rest := []) (n := 1) ⟨hx, hb, hml, hown, hA⟩ (cd_GA mw_95) hE hb0 hW hS 8 q h_q rfl rfl (c_Thing_comparedWith l D dA b0 w q (some j_12) h_q (fun _ h => by cases h; exact h_j_12)) nn_16 mw_96 mw_97 mw_70 (by decide +kernel) rfl rfl ⟨by decide, by decide⟩ rfl hl.1 rfl (Nat.le_of_ble_eq_true rfl) d_CarDesk_outcomeOfCall_64 ⟨by decide, by decide⟩ (fun H locs hW hS => ?_)
          refine lv_i2l hx hb d_CarDesk_outcomeOfCall_67 rfl ?_
          have hf : f_CarDesk_outcomeOfCall w x q y = (f_Thing_comparedWith w q (some j_12)).toInt64 := by
            simp only [f_CarDesk_outcomeOfCall, if_neg c_4, if_neg c_7, if_neg c_10, cd_oc_s ho_11]
          exact cd_lret hx hb hr hlocks hW hS d_CarDesk_outcomeOfCall_68 ⟨by rw [hf], rfl, rfl, rfl⟩ (Nat.le_of_ble_eq_true rfl) (Nat.le_of_ble_eq_true rfl)

def f_CarDesk_changeByCall (w : cx_W) (x : Int32) (q : Nat) (y : Int64) : cx_W := if (x / 6) = 1 then (if (x / 6) = 2 then (u_tu (u_st (u_st w q y) q (f_CarDesk_steppedState (u_st w q y) x q y)) q ((x_tu w q) + 1)) else (u_st w q y)) else if (x / 6) = 2 then (u_tu (u_st w q (f_CarDesk_steppedState w x q y)) q ((x_tu w q) + 1)) else w
set_option maxHeartbeats 4000000 in
set_option maxRecDepth 100000 in
theorem c_CarDesk_changeByCall (l : Launch) (D : va_G) (dA : Nat → ClassId) (b0 : Nat) (w : cx_W) (x : Int32) (q : Nat) (y : Int64) (hI : cx_Iv w) (h_q : x_al w q) (hcl : vp_in x 24) : cd_Ct l D (cx_tys dA) b0 y_CarDesk_changeByCall (.code y_CarDesk_changeByCall b_CarDesk_changeByCall 6 none :: cd_WA) { frames := 3, cells := 0, slots := 0, locals := 70 } [.ref (x_ad w 0 0), .int x, .ref (x_ad w 8 q), .long y] (cx_dm w) (x_ad w) (cx_ce dA w) (cx_R dA none (f_CarDesk_changeByCall w x q y)) 0 0 := by
  refine cd_Ct.of b_CarDesk_changeByCall 6 none (by decide) rfl ?_
  intro p e s m below meth c hx hb hr hml hown hlocks hnm hA hE hb0 hW hS ls hl
  have hK := hE.1
  have hl : lv_has ls 6 [(0, .ref (x_ad w 0 0)), (1, .int x), (2, .ref (x_ad w 8 q)), (3, .long y)] := hl
  refine lv_iload_n hx hb d_CarDesk_changeByCall_0 rfl (lv_at hl 1 rfl) ?_
  refine lv_bipush (v := 6) hx hb d_CarDesk_changeByCall_1 (by decide) ?_
  refine lv_idiv hx hb d_CarDesk_changeByCall_3 (by decide) ?_
  refine lv_istore (lv' := [(5, .int (x / 6)), (0, .ref (x_ad w 0 0)), (1, .int x), (2, .ref (x_ad w 8 q)), (3, .long y)]) hx hb d_CarDesk_changeByCall_4 hl (by decide) rfl (fun ls hl => ?_)
  refine lv_iload hx hb d_CarDesk_changeByCall_6 (lv_at hl 0 rfl) ?_
  refine lv_iconst (v := 1) hx hb d_CarDesk_changeByCall_8 (by decide) ?_
  refine lv_icmp_ne (tgt := 17) hx hb d_CarDesk_changeByCall_9 (by decide) (fun c_1 => ?_) (fun c_1 => ?_)
  · skip
    refine lv_iload hx hb d_CarDesk_changeByCall_17 (lv_at hl 0 rfl) ?_
    refine lv_iconst (v := 2) hx hb d_CarDesk_changeByCall_19 (by decide) ?_
    refine lv_icmp_ne (tgt := 44) hx hb d_CarDesk_changeByCall_20 (by decide) (fun c_2 => ?_) (fun c_2 => ?_)
    · skip
      have hf : f_CarDesk_changeByCall w x q y = w := by
        simp only [f_CarDesk_changeByCall, if_neg c_1, if_neg c_2]
      exact cd_vret hx hb hr hlocks hW hS d_CarDesk_changeByCall_44 ⟨rfl, by rw [hf], by rw [hf], by rw [hf]⟩ (Nat.le_of_ble_eq_true rfl) (Nat.le_of_ble_eq_true rfl)
    · skip
      refine lv_aload_n hx hb d_CarDesk_changeByCall_23 rfl (lv_at hl 3 rfl) ?_
      refine lv_aload_n hx hb d_CarDesk_changeByCall_24 rfl (lv_at hl 1 rfl) ?_
      refine lv_iload_n hx hb d_CarDesk_changeByCall_25 rfl (lv_at hl 2 rfl) ?_
      refine lv_aload_n hx hb d_CarDesk_changeByCall_26 rfl (lv_at hl 3 rfl) ?_
      refine lv_lload_n hx hb d_CarDesk_changeByCall_27 rfl (lv_at hl 4 rfl) ?_
      refine cx_cV (w0 := w) (x0 := .long (f_CarDesk_steppedState w x q y)) (rest := [.ref (x_ad w 8 q)]) (n := 3) ⟨hx, hb, hml, hown, hA⟩ (cd_GA mw_98) hE hb0 hW hS 0 0 rfl rfl rfl (c_CarDesk_steppedState l D dA b0 w x q y hI h_q hcl) mw_101 mw_99 mw_100 mw_32 (by decide +kernel) rfl rfl ⟨by decide, by decide⟩ rfl hl.1 rfl (Nat.le_of_ble_eq_true rfl) d_CarDesk_changeByCall_28 ⟨by decide, by decide⟩ (fun H locs hW hS => ?_)
      refine cd_putN (ci := 3) (C := R_Thing) (T := F_Thing) (N := 5) (v := .long (f_CarDesk_steppedState w x q y)) hx hb hA i_Thing t_Thing t_Thing_ok n_Thing hown hE hW hS 8 q h_q rfl rfl 1 (by decide) nn_5 rfl rfl rfl rfl (Nat.le_of_ble_eq_true rfl) d_CarDesk_changeByCall_31 (cx_ce dA (u_st w q (f_CarDesk_steppedState w x q y))) (nw_st ..) (kp_st dA w q (f_CarDesk_steppedState w x q y)) (fun H locs hW hS => ?_)
      have hW : cx_Wo D dA b0 (u_st w q (f_CarDesk_steppedState w x q y)) H := to_st hW
      refine lv_aload_n hx hb d_CarDesk_changeByCall_34 rfl (lv_at hl 3 rfl) ?_
      refine lv_dup hx hb d_CarDesk_changeByCall_35 rfl ?_
      refine cd_getN (ci := 3) (C := R_Thing) (T := F_Thing) (N := 5) (v := .int (x_tu w q)) hx hb hA i_Thing hown hE hW 8 q h_q rfl rfl 2 (by decide) nn_12 rfl rfl d_CarDesk_changeByCall_36 ?_
      refine lv_iconst (v := 1) hx hb d_CarDesk_changeByCall_39 (by decide) ?_
      refine lv_iadd hx hb d_CarDesk_changeByCall_40 ?_
      refine cd_putN (ci := 3) (C := R_Thing) (T := F_Thing) (N := 5) (v := .int ((x_tu w q) + 1)) hx hb hA i_Thing t_Thing t_Thing_ok n_Thing hown hE hW hS 8 q h_q rfl rfl 2 (by decide) nn_12 rfl rfl rfl rfl (Nat.le_of_ble_eq_true rfl) d_CarDesk_changeByCall_41 (cx_ce dA (u_tu (u_st w q (f_CarDesk_steppedState w x q y)) q ((x_tu w q) + 1))) (nw_tu ..) (kp_tu dA (u_st w q (f_CarDesk_steppedState w x q y)) q ((x_tu w q) + 1)) (fun H locs hW hS => ?_)
      have hW : cx_Wo D dA b0 (u_tu (u_st w q (f_CarDesk_steppedState w x q y)) q ((x_tu w q) + 1)) H := to_tu hW
      have hf : f_CarDesk_changeByCall w x q y = (u_tu (u_st w q (f_CarDesk_steppedState w x q y)) q ((x_tu w q) + 1)) := by
        simp only [f_CarDesk_changeByCall, if_neg c_1, if_pos c_2]
      exact cd_vret hx hb hr hlocks hW hS d_CarDesk_changeByCall_44 ⟨rfl, by rw [hf], by rw [hf], by rw [hf]⟩ (Nat.le_of_ble_eq_true rfl) (Nat.le_of_ble_eq_true rfl)
  · skip
    refine lv_aload_n hx hb d_CarDesk_changeByCall_12 rfl (lv_at hl 3 rfl) ?_
    refine lv_lload_n hx hb d_CarDesk_changeByCall_13 rfl (lv_at hl 4 rfl) ?_
    refine cd_putN (ci := 3) (C := R_Thing) (T := F_Thing) (N := 5) (v := .long y) hx hb hA i_Thing t_Thing t_Thing_ok n_Thing hown hE hW hS 8 q h_q rfl rfl 1 (by decide) nn_5 rfl rfl rfl rfl (Nat.le_of_ble_eq_true rfl) d_CarDesk_changeByCall_14 (cx_ce dA (u_st w q y)) (nw_st ..) (kp_st dA w q y) (fun H locs hW hS => ?_)
    have hW : cx_Wo D dA b0 (u_st w q y) H := to_st hW
    refine lv_iload hx hb d_CarDesk_changeByCall_17 (lv_at hl 0 rfl) ?_
    refine lv_iconst (v := 2) hx hb d_CarDesk_changeByCall_19 (by decide) ?_
    refine lv_icmp_ne (tgt := 44) hx hb d_CarDesk_changeByCall_20 (by decide) (fun c_3 => ?_) (fun c_3 => ?_)
    · skip
      have hf : f_CarDesk_changeByCall w x q y = (u_st w q y) := by
        simp only [f_CarDesk_changeByCall, if_pos c_1, if_neg c_3]
      exact cd_vret hx hb hr hlocks hW hS d_CarDesk_changeByCall_44 ⟨rfl, by rw [hf], by rw [hf], by rw [hf]⟩ (Nat.le_of_ble_eq_true rfl) (Nat.le_of_ble_eq_true rfl)
    · skip
      refine lv_aload_n hx hb d_CarDesk_changeByCall_23 rfl (lv_at hl 3 rfl) ?_
      refine lv_aload_n hx hb d_CarDesk_changeByCall_24 rfl (lv_at hl 1 rfl) ?_
      refine lv_iload_n hx hb d_CarDesk_changeByCall_25 rfl (lv_at hl 2 rfl) ?_
      refine lv_aload_n hx hb d_CarDesk_changeByCall_26 rfl (lv_at hl 3 rfl) ?_
      refine lv_lload_n hx hb d_CarDesk_changeByCall_27 rfl (lv_at hl 4 rfl) ?_
      refine cx_cV (w0 := (u_st w q y)) (x0 := .long (f_CarDesk_steppedState (u_st w q y) x q y)) (rest := [.ref (x_ad w 8 q)]) (n := 3) ⟨hx, hb, hml, hown, hA⟩ (cd_GA mw_98) hE hb0 hW hS 0 0 rfl rfl rfl (c_CarDesk_steppedState l D dA b0 (u_st w q y) x q y hI h_q hcl) mw_101 mw_99 mw_100 mw_32 (by decide +kernel) rfl rfl ⟨by decide, by decide⟩ rfl hl.1 rfl (Nat.le_of_ble_eq_true rfl) d_CarDesk_changeByCall_28 ⟨by decide, by decide⟩ (fun H locs hW hS => ?_)
      refine cd_putN (ci := 3) (C := R_Thing) (T := F_Thing) (N := 5) (v := .long (f_CarDesk_steppedState (u_st w q y) x q y)) hx hb hA i_Thing t_Thing t_Thing_ok n_Thing hown hE hW hS 8 q h_q rfl rfl 1 (by decide) nn_5 rfl rfl rfl rfl (Nat.le_of_ble_eq_true rfl) d_CarDesk_changeByCall_31 (cx_ce dA (u_st (u_st w q y) q (f_CarDesk_steppedState (u_st w q y) x q y))) (nw_st ..) (kp_st dA (u_st w q y) q (f_CarDesk_steppedState (u_st w q y) x q y)) (fun H locs hW hS => ?_)
      have hW : cx_Wo D dA b0 (u_st (u_st w q y) q (f_CarDesk_steppedState (u_st w q y) x q y)) H := to_st hW
      refine lv_aload_n hx hb d_CarDesk_changeByCall_34 rfl (lv_at hl 3 rfl) ?_
      refine lv_dup hx hb d_CarDesk_changeByCall_35 rfl ?_
      refine cd_getN (ci := 3) (C := R_Thing) (T := F_Thing) (N := 5) (v := .int (x_tu w q)) hx hb hA i_Thing hown hE hW 8 q h_q rfl rfl 2 (by decide) nn_12 rfl rfl d_CarDesk_changeByCall_36 ?_
      refine lv_iconst (v := 1) hx hb d_CarDesk_changeByCall_39 (by decide) ?_
      refine lv_iadd hx hb d_CarDesk_changeByCall_40 ?_
      refine cd_putN (ci := 3) (C := R_Thing) (T := F_Thing) (N := 5) (v := .int ((x_tu w q) + 1)) hx hb hA i_Thing t_Thing t_Thing_ok n_Thing hown hE hW hS 8 q h_q rfl rfl 2 (by decide) nn_12 rfl rfl rfl rfl (Nat.le_of_ble_eq_true rfl) d_CarDesk_changeByCall_41 (cx_ce dA (u_tu (u_st (u_st w q y) q (f_CarDesk_steppedState (u_st w q y) x q y)) q ((x_tu w q) + 1))) (nw_tu ..) (kp_tu dA (u_st (u_st w q y) q (f_CarDesk_steppedState (u_st w q y) x q y)) q ((x_tu w q) + 1)) (fun H locs hW hS => ?_)
      have hW : cx_Wo D dA b0 (u_tu (u_st (u_st w q y) q (f_CarDesk_steppedState (u_st w q y) x q y)) q ((x_tu w q) + 1)) H := to_tu hW
      have hf : f_CarDesk_changeByCall w x q y = (u_tu (u_st (u_st w q y) q (f_CarDesk_steppedState (u_st w q y) x q y)) q ((x_tu w q) + 1)) := by
        simp only [f_CarDesk_changeByCall, if_pos c_1, if_pos c_3]
      exact cd_vret hx hb hr hlocks hW hS d_CarDesk_changeByCall_44 ⟨rfl, by rw [hf], by rw [hf], by rw [hf]⟩ (Nat.le_of_ble_eq_true rfl) (Nat.le_of_ble_eq_true rfl)

