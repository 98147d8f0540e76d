def f_CarDesk_firstState (w : cx_W) (x : Int32) (o : Option Nat) : Int64 := if x = 0 then (f_Tray_hash w 0) else if x = 1 then (cd_oc o 0 (fun j_8 => (x_st w j_8))) else if x = 2 then ((1000 * ((f_Tray_sum w 1).toInt64)) + ((f_Tray_changes w 1).toInt64)) else if x = 3 then 0 else if x = 4 then (f_Tray_checksum w 2) else (f_Shelf_countThere w 1).toInt64
set_option maxHeartbeats 4000000 in
set_option maxRecDepth 100000 in
theorem c_CarDesk_firstState (l : Launch) (D : va_G) (dA : Nat → ClassId) (b0 : Nat) (w : cx_W) (x : Int32) (o : Option Nat) (hI : cx_Iv w) (h_o : ∀ j, o = some j → x_al w j) : cd_Ct l D (cx_tys dA) b0 y_CarDesk_firstState (.code y_CarDesk_firstState b_CarDesk_firstState 3 (some .long) :: cd_WA) { frames := 2, cells := 0, slots := 0, locals := 44 } [.ref (x_ad w 0 0), .int x, va_rf (o.map (x_ad w 8))] (cx_dm w) (x_ad w) (cx_ce dA w) (cx_R dA (some (.long (f_CarDesk_firstState w x o))) w) 0 0 := by
  refine cd_Ct.of b_CarDesk_firstState 3 (some .long) (by decide) (by cases o <;> rfl) ?_
  intro p e s m below meth c hx hb hr hml hown hlocks hnm hA hE hb0 hW hS ls hl
  have hK := hE.1
  obtain ⟨o', eo⟩ : ∃ z, o = z := ⟨_, rfl⟩
  have hl : lv_has ls 3 [(0, .ref (x_ad w 0 0)), (1, .int x), (2, va_rf (o'.map (x_ad w 8)))] := by
    rw [← eo]
    cases o <;> exact hl
  refine lv_iload_n hx hb d_CarDesk_firstState_0 rfl (lv_at hl 1 rfl) ?_
  refine lv_topi (fun z_1 ez_1 => ?_)
  by_cases h_2 : z_1 = 0
  · skip
    subst h_2
    have c_3 : x = 0 := ez_1.symm
    refine lv_tableIn (tgt := 36) (off := 35) hx hb d_CarDesk_firstState_1 (by decide) (by decide) (by decide) (by decide) ?_
    refine lv_aload_n hx hb d_CarDesk_firstState_36 rfl (lv_at hl 0 rfl) ?_
    refine cd_get (ci := 0) (C := R_CarDesk) (T := F_CarDesk) (N := 14) (v := .ref (x_ad w 1 0)) hx hb hA i_CarDesk hown hK hW 0 0 rfl rfl rfl 0 (by decide) mw_28 rfl rfl d_CarDesk_firstState_37 ?_
    refine cx_cVN (w0 := w) (x0 := .long (f_Tray_hash w 0)) (rest := []) (n := 0) ⟨hx, hb, hml, hown, hA⟩ (cd_GA mw_40) hE hb0 hW hS 1 0 (show (0 : Nat) < 3 from by decide) rfl rfl (c_Tray_hash l D dA b0 w 0 (show (0 : Nat) < 3 from by decide) hI) nn_4 mw_42 mw_43 mw_41 (by decide +kernel) rfl rfl ⟨by decide, by decide⟩ rfl hl.1 rfl (Nat.le_of_ble_eq_true rfl) d_CarDesk_firstState_40 ⟨by decide, by decide⟩ (fun H locs hW hS => ?_)
    have hf : f_CarDesk_firstState w x o = (f_Tray_hash w 0) := by
      simp only [f_CarDesk_firstState, if_pos c_3]
    exact cd_lret hx hb hr hlocks hW hS d_CarDesk_firstState_43 ⟨by rw [hf], rfl, rfl, rfl⟩ (Nat.le_of_ble_eq_true rfl) (Nat.le_of_ble_eq_true rfl)
  · skip
    have c_4 : ¬ x = 0 := fun q => h_2 (ez_1.trans q)
    by_cases h_5 : z_1 = 1
    · skip
      subst h_5
      have c_6 : x = 1 := ez_1.symm
      refine lv_tableIn (tgt := 44) (off := 43) hx hb d_CarDesk_firstState_1 (by decide) (by decide) (by decide) (by decide) ?_
      rcases ho_7 : o' with _ | j_8
      · skip
        rw [ho_7] at hl
        have ho_7 : o = none := eo.trans ho_7
        refine lv_aload_nN hx hb d_CarDesk_firstState_44 rfl (lv_at hl 2 rfl) ?_
        refine lv_ifnonnullN hx hb d_CarDesk_firstState_45 ?_
        refine lv_lconst (v := 0) hx hb d_CarDesk_firstState_48 (by decide) ?_
        refine lv_goto (tgt := 56) hx hb d_CarDesk_firstState_49 (by decide) ?_
        have hf : f_CarDesk_firstState w x o = 0 := by
          simp only [f_CarDesk_firstState, if_neg c_4, if_pos c_6, cd_oc_n ho_7]
        exact cd_lret hx hb hr hlocks hW hS d_CarDesk_firstState_56 ⟨by rw [hf], rfl, rfl, rfl⟩ (Nat.le_of_ble_eq_true rfl) (Nat.le_of_ble_eq_true rfl)
      · skip
        rw [ho_7] at hl
        have ho_7 : o = some j_8 := eo.trans ho_7
        have h_j_8 : x_al w j_8 := h_o _ ho_7
        refine lv_aload_n hx hb d_CarDesk_firstState_44 rfl (lv_at hl 2 rfl) ?_
        refine lv_ifnonnull (tgt := 52) hx hb d_CarDesk_firstState_45 (by decide) ?_
        refine lv_aload_n hx hb d_CarDesk_firstState_52 rfl (lv_at hl 2 rfl) ?_
        refine cd_getN (ci := 3) (C := R_Thing) (T := F_Thing) (N := 5) (v := .long (x_st w j_8)) hx hb hA i_Thing hown hE hW 8 j_8 h_j_8 rfl rfl 1 (by decide) nn_5 rfl rfl d_CarDesk_firstState_53 ?_
        have hf : f_CarDesk_firstState w x o = (x_st w j_8) := by
          simp only [f_CarDesk_firstState, if_neg c_4, if_pos c_6, cd_oc_s ho_7]
        exact cd_lret hx hb hr hlocks hW hS d_CarDesk_firstState_56 ⟨by rw [hf], rfl, rfl, rfl⟩ (Nat.le_of_ble_eq_true rfl) (Nat.le_of_ble_eq_true rfl)
    · skip
      have c_9 : ¬ x = 1 := fun q => h_5 (ez_1.trans q)
      by_cases h_10 : z_1 = 2
      · skip
        subst h_10
        have c_11 : x = 2 := ez_1.symm
        refine lv_tableIn (tgt := 57) (off := 56) hx hb d_CarDesk_firstState_1 (by decide) (by decide) (by decide) (by decide) ?_
        refine lv_ldc2 (v := 1000) hx hb hown (hA _ mw_44) d_CarDesk_firstState_57 ?_
        refine lv_aload_n hx hb d_CarDesk_firstState_60 rfl (lv_at hl 0 rfl) ?_
        refine cd_get (ci := 0) (C := R_CarDesk) (T := F_CarDesk) (N := 14) (v := .ref (x_ad w 1 1)) hx hb hA i_CarDesk hown hK hW 0 0 rfl rfl rfl 1 (by decide) mw_29 rfl rfl d_CarDesk_firstState_61 ?_
        refine cx_cVN (w0 := w) (x0 := .int (f_Tray_sum w 1)) (rest := [.long 1000]) (n := 0) ⟨hx, hb, hml, hown, hA⟩ (cd_GA mw_45) hE hb0 hW hS 1 1 (show (1 : Nat) < 3 from by decide) rfl rfl (c_Tray_sum l D dA b0 w 1 (show (1 : Nat) < 3 from by decide) hI) nn_6 mw_46 mw_47 mw_41 (by decide +kernel) rfl rfl ⟨by decide, by decide⟩ rfl hl.1 rfl (Nat.le_of_ble_eq_true rfl) d_CarDesk_firstState_64 ⟨by decide, by decide⟩ (fun H locs hW hS => ?_)
        refine lv_i2l hx hb d_CarDesk_firstState_67 rfl ?_
        refine lv_lmul hx hb d_CarDesk_firstState_68 ?_
        refine lv_aload_n hx hb d_CarDesk_firstState_69 rfl (lv_at hl 0 rfl) ?_
        refine cd_get (ci := 0) (C := R_CarDesk) (T := F_CarDesk) (N := 14) (v := .ref (x_ad w 1 1)) hx hb hA i_CarDesk hown hK hW 0 0 rfl rfl rfl 1 (by decide) mw_29 rfl rfl d_CarDesk_firstState_70 ?_
        refine cx_cVN (w0 := w) (x0 := .int (f_Tray_changes w 1)) (rest := [.long (1000 * ((f_Tray_sum w 1).toInt64))]) (n := 0) ⟨hx, hb, hml, hown, hA⟩ (cd_GA mw_48) hE hb0 hW hS 1 1 (show (1 : Nat) < 3 from by decide) rfl rfl (c_Tray_changes l D dA b0 w 1 (show (1 : Nat) < 3 from by decide) hI) nn_7 mw_49 mw_50 mw_41 (by decide +kernel) rfl rfl ⟨by decide, by decide⟩ rfl hl.1 rfl (Nat.le_of_ble_eq_true rfl) d_CarDesk_firstState_73 ⟨by decide, by decide⟩ (fun H locs hW hS => ?_)
        refine lv_i2l hx hb d_CarDesk_firstState_76 rfl ?_
        refine lv_ladd hx hb d_CarDesk_firstState_77 ?_
        have hf : f_CarDesk_firstState w x o = ((1000 * ((f_Tray_sum w 1).toInt64)) + ((f_Tray_changes w 1).toInt64)) := by
          simp only [f_CarDesk_firstState, if_neg c_4, if_neg c_9, if_pos c_11]
        exact cd_lret hx hb hr hlocks hW hS d_CarDesk_firstState_78 ⟨by rw [hf], rfl, rfl, rfl⟩ (Nat.le_of_ble_eq_true rfl) (Nat.le_of_ble_eq_true rfl)
      · skip
        have c_12 : ¬ x = 2 := fun q => h_10 (ez_1.trans q)
        by_cases h_13 : z_1 = 3
        · skip
          subst h_13
          have c_14 : x = 3 := ez_1.symm
          refine lv_tableIn (tgt := 79) (off := 78) hx hb d_CarDesk_firstState_1 (by decide) (by decide) (by decide) (by decide) ?_
          refine lv_lconst (v := 0) hx hb d_CarDesk_firstState_79 (by decide) ?_
          have hf : f_CarDesk_firstState w x o = 0 := by
            simp only [f_CarDesk_firstState, if_neg c_4, if_neg c_9, if_neg c_12, if_pos c_14]
          exact cd_lret hx hb hr hlocks hW hS d_CarDesk_firstState_80 ⟨by rw [hf], rfl, rfl, rfl⟩ (Nat.le_of_ble_eq_true rfl) (Nat.le_of_ble_eq_true rfl)
        · skip
          have c_15 : ¬ x = 3 := fun q => h_13 (ez_1.trans q)
          by_cases h_16 : z_1 = 4
          · skip
            subst h_16
            have c_17 : x = 4 := ez_1.symm
            refine lv_tableIn (tgt := 81) (off := 80) hx hb d_CarDesk_firstState_1 (by decide) (by decide) (by decide) (by decide) ?_
            refine lv_aload_n hx hb d_CarDesk_firstState_81 rfl (lv_at hl 0 rfl) ?_
            refine cd_get (ci := 0) (C := R_CarDesk) (T := F_CarDesk) (N := 14) (v := .ref (x_ad w 1 2)) hx hb hA i_CarDesk hown hK hW 0 0 rfl rfl rfl 2 (by decide) mw_30 rfl rfl d_CarDesk_firstState_82 ?_
            refine cx_cVN (w0 := w) (x0 := .long (f_Tray_checksum w 2)) (rest := []) (n := 0) ⟨hx, hb, hml, hown, hA⟩ (cd_GA mw_51) hE hb0 hW hS 1 2 (show (2 : Nat) < 3 from by decide) rfl rfl (c_Tray_checksum l D dA b0 w 2 (show (2 : Nat) < 3 from by decide) hI) nn_8 mw_52 mw_53 mw_41 (by decide +kernel) rfl rfl ⟨by decide, by decide⟩ rfl hl.1 rfl (Nat.le_of_ble_eq_true rfl) d_CarDesk_firstState_85 ⟨by decide, by decide⟩ (fun H locs hW hS => ?_)
            have hf : f_CarDesk_firstState w x o = (f_Tray_checksum w 2) := by
              simp only [f_CarDesk_firstState, if_neg c_4, if_neg c_9, if_neg c_12, if_neg c_15, if_pos c_17]
            exact cd_lret hx hb hr hlocks hW hS d_CarDesk_firstState_88 ⟨by rw [hf], rfl, rfl, rfl⟩ (Nat.le_of_ble_eq_true rfl) (Nat.le_of_ble_eq_true rfl)
          · skip
            have c_18 : ¬ x = 4 := fun q => h_16 (ez_1.trans q)
            refine lv_tableOut (tgt := 89) hx hb d_CarDesk_firstState_1 (by have g0 := cd_ne 0 0 (by decide) h_2; have g1 := cd_ne 1 1 (by decide) h_5; have g2 := cd_ne 2 2 (by decide) h_10; have g3 := cd_ne 3 3 (by decide) h_13; have g4 := cd_ne 4 4 (by decide) h_16; omega) (by decide) ?_
            refine lv_aload_n hx hb d_CarDesk_firstState_89 rfl (lv_at hl 0 rfl) ?_
            refine cd_get (ci := 0) (C := R_CarDesk) (T := F_CarDesk) (N := 14) (v := .ref (x_ad w 3 0)) hx hb hA i_CarDesk hown hK hW 0 0 rfl rfl rfl 3 (by decide) mw_36 rfl rfl d_CarDesk_firstState_90 ?_
            refine lv_iconst (v := 1) hx hb d_CarDesk_firstState_93 (by decide) ?_
            refine cd_aald hx hb hK hW 3 0 rfl 2 rfl rfl (vp_in_nI (n := 1) (by decide) (by decide)) d_CarDesk_firstState_94 ?_
            rw [show ((1 : Int32)).toNatClampNeg = 1 by decide]
            refine cx_cVN (w0 := w) (x0 := .int (f_Shelf_countThere w 1)) (rest := []) (n := 0) ⟨hx, hb, hml, hown, hA⟩ (cd_GA mw_54) hE hb0 hW hS 4 1 (show (1 : Nat) < 6 from by decide) rfl rfl (c_Shelf_countThere l D dA b0 w 1 (show (1 : Nat) < 6 from by decide) hI) nn_9 mw_55 mw_56 mw_13 (by decide +kernel) rfl rfl ⟨by decide, by decide⟩ rfl hl.1 rfl (Nat.le_of_ble_eq_true rfl) d_CarDesk_firstState_95 ⟨by decide, by decide⟩ (fun H locs hW hS => ?_)
            refine lv_i2l hx hb d_CarDesk_firstState_98 rfl ?_
            have hf : f_CarDesk_firstState w x o = (f_Shelf_countThere w 1).toInt64 := by
              simp only [f_CarDesk_firstState, if_neg c_4, if_neg c_9, if_neg c_12, if_neg c_15, if_neg c_18]
            exact cd_lret hx hb hr hlocks hW hS d_CarDesk_firstState_99 ⟨by rw [hf], rfl, rfl, rfl⟩ (Nat.le_of_ble_eq_true rfl) (Nat.le_of_ble_eq_true rfl)

def f_ecn (c : Nat → Nat) (o : Option Nat) : Nat → Nat := cd_oc o c (fun t => va_up c t 0)
def f_CarDesk_emptyTrayOf (w : cx_W) (x : Int32) : cx_W := ((w.1.1, f_ecn (x_cnt w) (f_CarDesk_trayOfKind x), w.1.2.2), w.2)
set_option maxHeartbeats 4000000 in
set_option maxRecDepth 100000 in
theorem c_CarDesk_emptyTrayOf (l : Launch) (D : va_G) (dA : Nat → ClassId) (b0 : Nat) (w : cx_W) (x : Int32) : cd_Ct l D (cx_tys dA) b0 y_CarDesk_emptyTrayOf (.code y_CarDesk_emptyTrayOf b_CarDesk_emptyTrayOf 3 none :: cd_WA) { frames := 1, cells := 0, slots := 0, locals := 21 } [.ref (x_ad w 0 0), .int x] (cx_dm w) (x_ad w) (cx_ce dA w) (cx_R dA none (f_CarDesk_emptyTrayOf w x)) 0 0 := by
  refine cd_Ct.of b_CarDesk_emptyTrayOf 3 none (by decide) rfl ?_
  intro p e s m below meth c hx hb hr hml hown hlocks hnm hA hE hb0 hW hS ls hl
  have hK := hE.1
  have hl : lv_has ls 3 [(0, .ref (x_ad w 0 0)), (1, .int x)] := hl
  refine lv_aload_n hx hb d_CarDesk_emptyTrayOf_0 rfl (lv_at hl 0 rfl) ?_
  refine lv_iload_n hx hb d_CarDesk_emptyTrayOf_1 rfl (lv_at hl 1 rfl) ?_
  refine cx_cV (w0 := w) (x0 := va_rf ((f_CarDesk_trayOfKind x).map (x_ad w 1))) (rest := []) (n := 1) ⟨hx, hb, hml, hown, hA⟩ (cd_GA mw_31) hE hb0 hW hS 0 0 rfl rfl rfl (c_CarDesk_trayOfKind l D dA b0 w x) mw_35 mw_33 mw_34 mw_32 (by decide +kernel) rfl rfl ⟨by decide, by decide⟩ rfl hl.1 rfl (Nat.le_of_ble_eq_true rfl) d_CarDesk_emptyTrayOf_2 ⟨by decide, by decide⟩ (fun H locs hW hS => ?_)
  rcases ho_1 : (f_CarDesk_trayOfKind x) with _ | j_2
  · skip
    refine lv_astore_nN (lv' := [(2, .null), (0, .ref (x_ad w 0 0)), (1, .int x)]) hx hb d_CarDesk_emptyTrayOf_5 rfl hl (by decide) rfl (fun ls hl => ?_)
    refine lv_aload_nN hx hb d_CarDesk_emptyTrayOf_6 rfl (lv_at hl 0 rfl) ?_
    refine lv_ifnullN (tgt := 14) hx hb d_CarDesk_emptyTrayOf_7 (by decide) ?_
    have hf : f_CarDesk_emptyTrayOf w x = w := by
      simp only [f_CarDesk_emptyTrayOf, cd_oc_n ho_1, f_ecn, f_Tray_empty]
    exact cd_vret hx hb hr hlocks hW hS d_CarDesk_emptyTrayOf_14 ⟨rfl, by rw [hf], by rw [hf], by rw [hf]⟩ (Nat.le_of_ble_eq_true rfl) (Nat.le_of_ble_eq_true rfl)
  · skip
    have h_j_2 : j_2 < 3 := lt_trayOfKind ho_1
    refine lv_astore_n (lv' := [(2, .ref (x_ad w 1 j_2)), (0, .ref (x_ad w 0 0)), (1, .int x)]) hx hb d_CarDesk_emptyTrayOf_5 rfl hl (by decide) rfl (fun ls hl => ?_)
    refine lv_aload_n hx hb d_CarDesk_emptyTrayOf_6 rfl (lv_at hl 0 rfl) ?_
    refine lv_ifnull hx hb d_CarDesk_emptyTrayOf_7 ?_
    refine lv_aload_n hx hb d_CarDesk_emptyTrayOf_10 rfl (lv_at hl 0 rfl) ?_
    refine cx_cVN0 (w0 := (f_Tray_empty w j_2)) (rest := []) (n := 0) ⟨hx, hb, hml, hown, hA⟩ (cd_GA mw_57) hE hb0 hW hS 1 j_2 h_j_2 rfl rfl (c_Tray_empty l D dA b0 w j_2 h_j_2) nn_10 mw_58 mw_59 mw_41 (by decide +kernel) rfl rfl ⟨by decide, by decide⟩ rfl hl.1 rfl (Nat.le_of_ble_eq_true rfl) d_CarDesk_emptyTrayOf_11 ⟨by decide, by decide⟩ (fun H locs hW hS => ?_)
    have hf : f_CarDesk_emptyTrayOf w x = (f_Tray_empty w j_2) := by
      simp only [f_CarDesk_emptyTrayOf, cd_oc_s ho_1, f_ecn, f_Tray_empty]
    exact cd_vret hx hb hr hlocks hW hS d_CarDesk_emptyTrayOf_14 ⟨rfl, by rw [hf], by rw [hf], by rw [hf]⟩ (Nat.le_of_ble_eq_true rfl) (Nat.le_of_ble_eq_true rfl)

def f_CarDesk_thingOf (w : cx_W) (x : Int64) : Option Nat := if x < 0 then none else if x < 384 then (f_Shelf_at w ((x.toInt32 / 64).toNatClampNeg) ((x.toInt32 - x.toInt32 / 64 * 64) - 1)) else none
set_option maxHeartbeats 4000000 in
set_option maxRecDepth 100000 in
theorem c_CarDesk_thingOf (l : Launch) (D : va_G) (dA : Nat → ClassId) (b0 : Nat) (w : cx_W) (x : Int64) (hI : cx_Iv w) : cd_Ct l D (cx_tys dA) b0 y_CarDesk_thingOf (.code y_CarDesk_thingOf b_CarDesk_thingOf 4 (some (.object "CarDesk$Thing")) :: cd_WA) { frames := 1, cells := 0, slots := 0, locals := 22 } [.ref (x_ad w 0 0), .long x] (cx_dm w) (x_ad w) (cx_ce dA w) (cx_R dA (some (va_rf ((f_CarDesk_thingOf w x).map (x_ad w 8)))) w) 0 0 := by
  refine cd_Ct.of b_CarDesk_thingOf 4 (some (.object "CarDesk$Thing")) (by decide) rfl ?_
  intro p e s m below meth c hx hb hr hml hown hlocks hnm hA hE hb0 hW hS ls hl
  have hK := hE.1
  have hl : lv_has ls 4 [(0, .ref (x_ad w 0 0)), (1, .long x)] := hl
  refine lv_lload_n hx hb d_CarDesk_thingOf_0 rfl (lv_at hl 1 rfl) ?_
  refine lv_lconst (v := 0) hx hb d_CarDesk_thingOf_1 (by decide) ?_
  refine cd_lc_lt (tgt := 14) hx hb d_CarDesk_thingOf_2 d_CarDesk_thingOf_3 (by decide) (fun c_1 => ?_) (fun c_1 => ?_)
  · skip
    refine lv_null hx hb d_CarDesk_thingOf_14 ?_
    have hf : f_CarDesk_thingOf w x = none := by
      simp only [f_CarDesk_thingOf, if_pos c_1]
    exact cd_aret hx hb hr hlocks hW hS (Or.inl rfl) d_CarDesk_thingOf_15 ⟨by rw [hf]; rfl, rfl, rfl, rfl⟩ (Nat.le_of_ble_eq_true rfl) (Nat.le_of_ble_eq_true rfl)
  · skip
    refine lv_lload_n hx hb d_CarDesk_thingOf_6 rfl (lv_at hl 1 rfl) ?_
    refine lv_ldc2 (v := 384) hx hb hown (hA _ mw_60) d_CarDesk_thingOf_7 ?_
    refine cd_lc_lt (tgt := 16) hx hb d_CarDesk_thingOf_10 d_CarDesk_thingOf_11 (by decide) (fun c_2 => ?_) (fun c_2 => ?_)
    · skip
      refine lv_lload_n hx hb d_CarDesk_thingOf_16 rfl (lv_at hl 1 rfl) ?_
      refine lv_l2i hx hb d_CarDesk_thingOf_17 rfl ?_
      refine lv_istore_n (lv' := [(3, .int x.toInt32), (0, .ref (x_ad w 0 0)), (1, .long x)]) hx hb d_CarDesk_thingOf_18 rfl hl (by decide) rfl (fun ls hl => ?_)
      refine lv_aload_n hx hb d_CarDesk_thingOf_19 rfl (lv_at hl 1 rfl) ?_
      refine cd_get (ci := 0) (C := R_CarDesk) (T := F_CarDesk) (N := 14) (v := .ref (x_ad w 3 0)) hx hb hA i_CarDesk hown hK hW 0 0 rfl rfl rfl 3 (by decide) mw_36 rfl rfl d_CarDesk_thingOf_20 ?_
      refine lv_iload_n hx hb d_CarDesk_thingOf_23 rfl (lv_at hl 0 rfl) ?_
      refine lv_bipush (v := 64) hx hb d_CarDesk_thingOf_24 (by decide) ?_
      refine lv_idiv hx hb d_CarDesk_thingOf_26 (by decide) ?_
      refine cd_aald hx hb hK hW 3 0 rfl 2 rfl rfl (cd_k64 c_1 c_2) d_CarDesk_thingOf_27 ?_
      refine lv_iload_n hx hb d_CarDesk_thingOf_28 rfl (lv_at hl 0 rfl) ?_
      refine lv_bipush (v := 64) hx hb d_CarDesk_thingOf_29 (by decide) ?_
      refine lv_irem hx hb d_CarDesk_thingOf_31 (by decide) ?_
      refine lv_iconst (v := 1) hx hb d_CarDesk_thingOf_32 (by decide) ?_
      refine lv_isub hx hb d_CarDesk_thingOf_33 ?_
      refine cx_cVN (w0 := w) (x0 := va_rf ((f_Shelf_at w ((x.toInt32 / 64).toNatClampNeg) ((x.toInt32 - x.toInt32 / 64 * 64) - 1)).map (x_ad w 8))) (rest := []) (n := 1) ⟨hx, hb, hml, hown, hA⟩ (cd_GA mw_12) hE hb0 hW hS 4 ((x.toInt32 / 64).toNatClampNeg) (cd_vlt (cd_k64 c_1 c_2)) rfl rfl (c_Shelf_at l D dA b0 w ((x.toInt32 / 64).toNatClampNeg) ((x.toInt32 - x.toInt32 / 64 * 64) - 1) (cd_vlt (cd_k64 c_1 c_2)) hI) nn_11 mw_14 mw_15 mw_13 (by decide +kernel) rfl rfl ⟨by decide, by decide⟩ rfl hl.1 rfl (Nat.le_of_ble_eq_true rfl) d_CarDesk_thingOf_34 ⟨by decide, by decide⟩ (fun H locs hW hS => ?_)
      have hf : f_CarDesk_thingOf w x = (f_Shelf_at w ((x.toInt32 / 64).toNatClampNeg) ((x.toInt32 - x.toInt32 / 64 * 64) - 1)) := by
        simp only [f_CarDesk_thingOf, if_neg c_1, if_pos c_2]
      exact cd_aret hx hb hr hlocks hW hS (va_rf_or _) d_CarDesk_thingOf_37 ⟨by rw [hf], rfl, rfl, rfl⟩ (Nat.le_of_ble_eq_true rfl) (Nat.le_of_ble_eq_true rfl)
    · skip
      refine lv_null hx hb d_CarDesk_thingOf_14 ?_
      have hf : f_CarDesk_thingOf w x = none := by
        simp only [f_CarDesk_thingOf, if_neg c_1, if_neg c_2]
      exact cd_aret hx hb hr hlocks hW hS (Or.inl rfl) d_CarDesk_thingOf_15 ⟨by rw [hf]; rfl, rfl, rfl, rfl⟩ (Nat.le_of_ble_eq_true rfl) (Nat.le_of_ble_eq_true rfl)
theorem al_thingOf {w : cx_W} (hI : cx_Iv w) {x : Int64} {j : Nat} (h : f_CarDesk_thingOf w x = some j) : x_al w j := by
  unfold f_CarDesk_thingOf at h
  repeat' split at h
  all_goals first | (cases h; done) | exact al_Shelf_at hI h

def f_CarDesk_thingForCall (w : cx_W) (x : Int32) (y : Int64) : Option Nat := if (f_CarDesk_isCall x) = 0 then none else if (y / 64) = (x - x / 6 * 6).toInt64 then (f_CarDesk_thingOf w y) else none
set_option maxHeartbeats 4000000 in
set_option maxRecDepth 100000 in
theorem c_CarDesk_thingForCall (l : Launch) (D : va_G) (dA : Nat → ClassId) (b0 : Nat) (w : cx_W) (x : Int32) (y : Int64) (hI : cx_Iv w) : cd_Ct l D (cx_tys dA) b0 y_CarDesk_thingForCall (.code y_CarDesk_thingForCall b_CarDesk_thingForCall 4 (some (.object "CarDesk$Thing")) :: cd_WA) { frames := 2, cells := 0, slots := 0, locals := 45 } [.ref (x_ad w 0 0), .int x, .long y] (cx_dm w) (x_ad w) (cx_ce dA w) (cx_R dA (some (va_rf ((f_CarDesk_thingForCall w x y).map (x_ad w 8)))) w) 0 0 := by
  refine cd_Ct.of b_CarDesk_thingForCall 4 (some (.object "CarDesk$Thing")) (by decide) rfl ?_
  intro p e s m below meth c hx hb hr hml hown hlocks hnm hA hE hb0 hW hS ls hl
  have hK := hE.1
  have hl : lv_has ls 4 [(0, .ref (x_ad w 0 0)), (1, .int x), (2, .long y)] := hl
  refine lv_iload_n hx hb d_CarDesk_thingForCall_0 rfl (lv_at hl 1 rfl) ?_
  refine cx_cS (w0 := w) (x0 := .int (f_CarDesk_isCall x)) (rest := []) (n := 1) ⟨hx, hb, hml, hown, hA⟩ (cd_GA mw_61) hE hb0 hW hS (c_CarDesk_isCall l D dA b0 w x) mw_63 mw_62 mw_32 (by decide +kernel) rfl rfl ⟨by decide, by decide⟩ rfl hl.1 rfl (Nat.le_of_ble_eq_true rfl) d_CarDesk_thingForCall_1 ⟨by decide, by decide⟩ (fun H locs hW hS => ?_)
  refine lv_if_eq (tgt := 21) hx hb d_CarDesk_thingForCall_4 (by decide) (fun c_1 => ?_) (fun c_1 => ?_)
  · skip
    refine lv_null hx hb d_CarDesk_thingForCall_21 ?_
    have hf : f_CarDesk_thingForCall w x y = none := by
      simp only [f_CarDesk_thingForCall, if_pos c_1]
    exact cd_aret hx hb hr hlocks hW hS (Or.inl rfl) d_CarDesk_thingForCall_22 ⟨by rw [hf]; rfl, rfl, rfl, rfl⟩ (Nat.le_of_ble_eq_true rfl) (Nat.le_of_ble_eq_true rfl)
  · skip
    refine lv_lload_n hx hb d_CarDesk_thingForCall_7 rfl (lv_at hl 2 rfl) ?_
    refine lv_ldc2 (v := 64) hx hb hown (hA _ mw_64) d_CarDesk_thingForCall_8 ?_
    refine lv_ldiv hx hb d_CarDesk_thingForCall_11 (by decide) ?_
    refine lv_iload_n hx hb d_CarDesk_thingForCall_12 rfl (lv_at hl 1 rfl) ?_
    refine lv_bipush (v := 6) hx hb d_CarDesk_thingForCall_13 (by decide) ?_
    refine lv_irem hx hb d_CarDesk_thingForCall_15 (by decide) ?_
    refine lv_i2l hx hb d_CarDesk_thingForCall_16 rfl ?_
    refine cd_lc_eq (tgt := 23) hx hb d_CarDesk_thingForCall_17 d_CarDesk_thingForCall_18 (by decide) (fun c_2 => ?_) (fun c_2 => ?_)
    · skip
      refine lv_aload_n hx hb d_CarDesk_thingForCall_23 rfl (lv_at hl 0 rfl) ?_
      refine lv_lload_n hx hb d_CarDesk_thingForCall_24 rfl (lv_at hl 2 rfl) ?_
      refine cx_cV (w0 := w) (x0 := va_rf ((f_CarDesk_thingOf w y).map (x_ad w 8))) (rest := []) (n := 1) ⟨hx, hb, hml, hown, hA⟩ (cd_GA mw_65) hE hb0 hW hS 0 0 rfl rfl rfl (c_CarDesk_thingOf l D dA b0 w y hI) mw_68 mw_66 mw_67 mw_32 (by decide +kernel) rfl rfl ⟨by decide, by decide⟩ rfl hl.1 rfl (Nat.le_of_ble_eq_true rfl) d_CarDesk_thingForCall_25 ⟨by decide, by decide⟩ (fun H locs hW hS => ?_)
      have hf : f_CarDesk_thingForCall w x y = (f_CarDesk_thingOf w y) := by
        simp only [f_CarDesk_thingForCall, if_neg c_1, if_pos c_2]
      exact cd_aret hx hb hr hlocks hW hS (va_rf_or _) d_CarDesk_thingForCall_28 ⟨by rw [hf], rfl, rfl, rfl⟩ (Nat.le_of_ble_eq_true rfl) (Nat.le_of_ble_eq_true rfl)
    · skip
      refine lv_null hx hb d_CarDesk_thingForCall_21 ?_
      have hf : f_CarDesk_thingForCall w x y = none := by
        simp only [f_CarDesk_thingForCall, if_neg c_1, if_neg c_2]
      exact cd_aret hx hb hr hlocks hW hS (Or.inl rfl) d_CarDesk_thingForCall_22 ⟨by rw [hf]; rfl, rfl, rfl, rfl⟩ (Nat.le_of_ble_eq_true rfl) (Nat.le_of_ble_eq_true rfl)
theorem al_thingForCall {w : cx_W} (hI : cx_Iv w) {x : Int32} {y : Int64} {j : Nat} (h : f_CarDesk_thingForCall w x y = some j) : x_al w j := by
  unfold f_CarDesk_thingForCall at h
  repeat' split at h
  all_goals first | (cases h; done) | exact al_thingOf hI h
theorem cd_call {x : Int32} (h : ¬ f_CarDesk_isCall x = 0) : vp_in x 24 := by
  unfold f_CarDesk_isCall at h
  split at h
  · exact absurd rfl h
  · split at h
    · exact absurd rfl h
    · exact cd_in 24 (by decide) ‹_› ‹_›
theorem cd_kind {x : Int32} (h : ¬ f_CarDesk_isKind x = 0) : vp_in x 6 := by
  unfold f_CarDesk_isKind at h
  split at h
  · exact absurd rfl h
  · split at h
    · exact absurd rfl h
    · exact cd_in 6 (by decide) ‹_› ‹_›
theorem in_thingForCall {w : cx_W} {x : Int32} {y : Int64} {j : Nat} (h : f_CarDesk_thingForCall w x y = some j) : vp_in x 24 := by
  unfold f_CarDesk_thingForCall at h
  split at h
  · cases h
  · exact cd_call ‹_›
theorem lt_full {w : cx_W} {t : Nat} (hI : cx_Iv w) (h : f_Tray_isFull w t = 0) : x_cnt w t < 200 := by
  have h1 := hI.1 t
  unfold f_Tray_isFull at h
  split at h
  · rename_i hlt
    exact (nI_ltI (b := 200) (by omega) (by decide)).mp hlt
  · exact absurd h (by decide)
theorem lt_shelf {w : cx_W} {k : Nat} (hI : cx_Iv w) (h : f_Shelf_isFull w k = 0) : x_made w k < 20 := by
  have h1 := hI.2.1 k
  unfold f_Shelf_isFull at h
  split at h
  · rename_i hlt
    exact (nI_ltI (b := 20) (by omega) (by decide)).mp hlt
  · exact absurd h (by decide)

