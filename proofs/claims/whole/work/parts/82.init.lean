set_option maxHeartbeats 4000000 in
set_option maxRecDepth 100000 in
theorem c_Tray_init (l : Launch) (D : va_G) (dA : Nat → ClassId) (b0 : Nat) (dm : Nat → Nat → Prop) (ad : Nat → Nat → Nat) (ce : Nat → Nat → va_E) (t : Nat) (mo : Int32) (hd : dm 1 t) (hce : ce 1 t = .inr (1, [.int 0, .null, .int 0])) (hn : ¬ dm 2 t) : cd_Ct l D (cx_tys dA) b0 y_Tray_init (.code y_Tray_init b_Tray_init 2 none :: cd_WA) { frames := 1, cells := 1, slots := 200, locals := 12 } [.ref (ad 1 t), .int mo] dm ad ce (fun v dm1 ad1 ce1 => v = none ∧ ∃ q : Nat, dm1 = dm2 dm 2 t ∧ ad1 = ad2 ad 2 t q ∧ ce1 = ce2 (ce2 ce 2 t (.inl (dA 0, 200, .inl (fun _ => 0)))) 1 t (.inr (1, [.int mo, .ref q, .int 0]))) 1 200 := by
  refine cd_Ct.of b_Tray_init 2 none (by decide) rfl ?_
  intro p e s m below meth c hx hb hr hml hown hlocks hnm hA hE hb0 hW hS ls hl
  have hK := hE.1
  have hl : lv_has ls 2 [(0, .ref (ad 1 t)), (1, .int mo)] := hl
  refine lv_aload_n hx hb d_Tray_init_0 rfl (lv_at hl 0 rfl) ?_
  refine cd_objI hx hb hown (hA _ mw_251) (hA _ mw_18) (hA _ mw_19) (by rw [hml]; exact hl.1) d_Tray_init_1 (Nat.le_of_ble_eq_true rfl) (Nat.le_of_ble_eq_true rfl) ?_
  refine lv_aload_n hx hb d_Tray_init_4 rfl (lv_at hl 0 rfl) ?_
  refine lv_sipush (v := 200) hx hb d_Tray_init_5 (by decide) ?_
  refine cd_newa (ty := .int) (a0 := (200, .inl (fun _ => 0))) (N' := 200) hx hb hA mw_252 rfl hK hb0 hW hS 0 rfl (fun _ h => by cases h) (fun _ => rfl) (by decide) (by decide) (by decide) (by decide) (by decide) d_Tray_init_8 2 t (dm2 dm 2 t) (fun q => ad2 ad 2 t q) (fun _ => ce2 ce 2 t (.inl (dA 0, 200, .inl (fun _ => 0)))) (fun q => ad2_s ad 2 t q) (fun _ => ce2_s _ _ _ _) (nu_2 hn) (fun q H hW hS => ?_)
  have h1 : dm2 dm 2 t 1 t := Or.inr hd
  have he0 : ce2 ce 2 t (.inl (dA 0, 200, .inl (fun _ => 0))) 1 t = .inr (1, [.int 0, .null, .int 0]) := (ce2_n (by simp)).trans hce
  refine cd_putF (ci := 1) (C := R_Tray) (T := F_Tray) (N := 3) (v := .ref q) hx hb hA i_Tray t_Tray t_Tray_ok n_Tray hown hK hW hS 1 t h1 he0 rfl 1 (by decide) mw_1 rfl rfl hnm rfl rfl rfl (Nat.le_of_ble_eq_true rfl) d_Tray_init_10 (ce2 (ce2 ce 2 t (.inl (dA 0, 200, .inl (fun _ => 0)))) 1 t (.inr (1, [.int 0, .ref q, .int 0]))) (ce2_s _ _ _ _) ce2_1 (fun H locs hW hS => ?_)
  refine lv_aload_n hx hb d_Tray_init_13 rfl (lv_at hl 0 rfl) ?_
  refine lv_iconst (v := 0) hx hb d_Tray_init_14 (by decide) ?_
  refine cd_put (ci := 1) (C := R_Tray) (T := F_Tray) (N := 3) (v := .int 0) hx hb hA i_Tray t_Tray t_Tray_ok n_Tray hown hK hW hS 1 t h1 (ce2_s _ _ _ _) rfl 2 (by decide) mw_0 rfl rfl rfl rfl (Nat.le_of_ble_eq_true rfl) d_Tray_init_15 (ce2 (ce2 ce 2 t (.inl (dA 0, 200, .inl (fun _ => 0)))) 1 t (.inr (1, [.int 0, .ref q, .int 0]))) (ce2_s _ _ _ _) ce2_2 (fun H locs hW hS => ?_)
  refine lv_aload_n hx hb d_Tray_init_18 rfl (lv_at hl 0 rfl) ?_
  refine lv_iload_n hx hb d_Tray_init_19 rfl (lv_at hl 1 rfl) ?_
  refine cd_putF (ci := 1) (C := R_Tray) (T := F_Tray) (N := 3) (v := .int mo) hx hb hA i_Tray t_Tray t_Tray_ok n_Tray hown hK hW hS 1 t h1 (ce2_s _ _ _ _) rfl 0 (by decide) mw_253 rfl rfl hnm rfl rfl rfl (Nat.le_of_ble_eq_true rfl) d_Tray_init_20 (ce2 (ce2 ce 2 t (.inl (dA 0, 200, .inl (fun _ => 0)))) 1 t (.inr (1, [.int mo, .ref q, .int 0]))) (ce2_s _ _ _ _) ce2_2 (fun H locs hW hS => ?_)
  exact cd_vret hx hb hr hlocks hW hS d_Tray_init_23 ⟨rfl, q, rfl, rfl, rfl⟩ (Nat.le_of_ble_eq_true rfl) (Nat.le_of_ble_eq_true rfl)
set_option maxHeartbeats 4000000 in
set_option maxRecDepth 100000 in
theorem c_Shelf_init (l : Launch) (D : va_G) (dA : Nat → ClassId) (b0 : Nat) (dm : Nat → Nat → Prop) (ad : Nat → Nat → Nat) (ce : Nat → Nat → va_E) (k : Nat) (hd : dm 4 k) (hce : ce 4 k = .inr (2, [.null, .int 0])) (hn : ¬ dm 5 k) : cd_Ct l D (cx_tys dA) b0 y_Shelf_init (.code y_Shelf_init b_Shelf_init 1 none :: cd_WA) { frames := 1, cells := 1, slots := 20, locals := 12 } [.ref (ad 4 k)] dm ad ce (fun v dm1 ad1 ce1 => v = none ∧ ∃ q : Nat, dm1 = dm2 dm 5 k ∧ ad1 = ad2 ad 5 k q ∧ ce1 = ce2 (ce2 ce 5 k (.inl (dA 3, 20, .inr (.inr (.inr (.inr (fun _ => none))))))) 4 k (.inr (2, [.ref q, .int 0]))) 1 20 := by
  refine cd_Ct.of b_Shelf_init 1 none (by decide) rfl ?_
  intro p e s m below meth c hx hb hr hml hown hlocks hnm hA hE hb0 hW hS ls hl
  have hK := hE.1
  have hl : lv_has ls 1 [(0, .ref (ad 4 k))] := hl
  refine lv_aload_n hx hb d_Shelf_init_0 rfl (lv_at hl 0 rfl) ?_
  refine cd_objI hx hb hown (hA _ mw_254) (hA _ mw_18) (hA _ mw_19) (by rw [hml]; exact hl.1) d_Shelf_init_1 (Nat.le_of_ble_eq_true rfl) (Nat.le_of_ble_eq_true rfl) ?_
  refine lv_aload_n hx hb d_Shelf_init_4 rfl (lv_at hl 0 rfl) ?_
  refine lv_bipush (v := 20) hx hb d_Shelf_init_5 (by decide) ?_
  refine cd_newq (C := R_Thing) (N' := 20) hx hb hA hown mw_255 hE (by decide) hb0 hW hS 3 rfl (by decide) (by decide) (by decide) (by decide) (by decide) d_Shelf_init_7 5 k (dm2 dm 5 k) (fun q => ad2 ad 5 k q) (fun _ => ce2 ce 5 k (.inl (dA 3, 20, .inr (.inr (.inr (.inr (fun _ => none))))))) (fun q => ad2_s ad 5 k q) (fun _ => ce2_s _ _ _ _) (nu_2 hn) (fun q H hW hS => ?_)
  have h1 : dm2 dm 5 k 4 k := Or.inr hd
  have he0 : ce2 ce 5 k (.inl (dA 3, 20, .inr (.inr (.inr (.inr (fun _ => none)))))) 4 k = .inr (2, [.null, .int 0]) := (ce2_n (by simp)).trans hce
  refine cd_putF (ci := 2) (C := R_Shelf) (T := F_Shelf) (N := 2) (v := .ref q) hx hb hA i_Shelf t_Shelf t_Shelf_ok n_Shelf hown hK hW hS 4 k h1 he0 rfl 0 (by decide) mw_11 rfl rfl hnm rfl rfl rfl (Nat.le_of_ble_eq_true rfl) d_Shelf_init_10 (ce2 (ce2 ce 5 k (.inl (dA 3, 20, .inr (.inr (.inr (.inr (fun _ => none))))))) 4 k (.inr (2, [.ref q, .int 0]))) (ce2_s _ _ _ _) ce2_1 (fun H locs hW hS => ?_)
  refine lv_aload_n hx hb d_Shelf_init_13 rfl (lv_at hl 0 rfl) ?_
  refine lv_iconst (v := 0) hx hb d_Shelf_init_14 (by decide) ?_
  refine cd_put (ci := 2) (C := R_Shelf) (T := F_Shelf) (N := 2) (v := .int 0) hx hb hA i_Shelf t_Shelf t_Shelf_ok n_Shelf hown hK hW hS 4 k h1 (ce2_s _ _ _ _) rfl 1 (by decide) mw_10 rfl rfl rfl rfl (Nat.le_of_ble_eq_true rfl) d_Shelf_init_15 (ce2 (ce2 ce 5 k (.inl (dA 3, 20, .inr (.inr (.inr (.inr (fun _ => none))))))) 4 k (.inr (2, [.ref q, .int 0]))) (ce2_s _ _ _ _) ce2_2 (fun H locs hW hS => ?_)
  exact cd_vret hx hb hr hlocks hW hS d_Shelf_init_18 ⟨rfl, q, rfl, rfl, rfl⟩ (Nat.le_of_ble_eq_true rfl) (Nat.le_of_ble_eq_true rfl)
set_option maxHeartbeats 4000000 in
set_option maxRecDepth 100000 in
theorem c_CarDesk_init (l : Launch) (D : va_G) (dA : Nat → ClassId) (b0 : Nat) (ad : Nat → Nat → Nat) (cr : Nat → Nat → va_E) : cd_Ct l D (cx_tys dA) b0 y_CarDesk_init (.code y_CarDesk_init b_CarDesk_init 2 none :: cd_WA) { frames := 2, cells := 21, slots := 795, locals := 33 } [.ref (ad 0 0)] (ci_dm 0 0 0 (fun _ _ => False)) ad (ci_ce dA ad [.null, .null, .null, .null, .null, .null, .int 0, .int 0, .int 0, .int 0, .int 0, .int 0, .int 0, .int 0] 0 cr) (fun v dm1 ad1 ce1 => v = none ∧ dm1 = cx_dm (cx_0, ad1, (fun _ _ => False), cr) ∧ ce1 = cx_ce dA (cx_0, ad1, (fun _ _ => False), cr) ∧ ad1 0 0 = ad 0 0) 21 795 := by
  refine cd_Ct.of b_CarDesk_init 2 none (by decide) rfl ?_
  intro p e s m below meth c hx hb hr hml hown hlocks hnm hA hE hb0 hW hS ls hl
  have hK := hE.1
  have hl : lv_has ls 2 [(0, .ref (ad 0 0))] := hl
  refine lv_aload_n hx hb d_CarDesk_init_0 rfl (lv_at hl 0 rfl) ?_
  refine cd_objI hx hb hown (hA _ mw_256) (hA _ mw_18) (hA _ mw_19) (by rw [hml]; exact hl.1) d_CarDesk_init_1 (Nat.le_of_ble_eq_true rfl) (Nat.le_of_ble_eq_true rfl) ?_
  refine lv_aload_n hx hb d_CarDesk_init_4 rfl (lv_at hl 0 rfl) ?_
  refine cd_new (ci := 1) (C := R_Tray) (T := F_Tray) (N := 3) (fs := [.int 0, .null, .int 0]) hx hb hA i_Tray t_Tray t_Tray_ok hown mw_257 mw_258 mw_41 hK hb0 hW hS rfl (fun j hj => by rcases (show j = 0 ∨ j = 1 ∨ j = 2 by omega) with rfl | rfl | rfl <;> rfl) (by decide) (by decide) d_CarDesk_init_5 1 0 (dm2 (ci_dm 0 0 0 (fun _ _ => False)) 1 0) (fun q => ad2 (ad) 1 0 q) (fun _ => ce2 (ci_ce dA (ad) [.null, .null, .null, .null, .null, .null, .int 0, .int 0, .int 0, .int 0, .int 0, .int 0, .int 0, .int 0] 0 cr) 1 0 (.inr (1, [.int 0, .null, .int 0]))) (fun q => ad2_s _ _ _ q) (fun _ => ce2_s _ _ _ _) (nu_2 (show ¬ (0 : Nat) < 0 by decide)) (fun q0a H hW hS => ?_)
  rw [← ad2_s (ad) 1 0 q0a]
  refine lv_dup hx hb d_CarDesk_init_8 rfl ?_
  refine lv_bipush (v := 127) hx hb d_CarDesk_init_9 (by decide) ?_
  refine cd_cIN (n := 1) (rest := [.ref ((ad2 (ad) 1 0 q0a) 1 0), .ref (ad 0 0)]) ⟨hx, hb, hml, hown, hA⟩ (cd_GA mw_259) hE hb0 hW hS ((ad2 (ad) 1 0 q0a) 1 0) (c_Tray_init l D dA b0 (dm2 (ci_dm 0 0 0 (fun _ _ => False)) 1 0) (ad2 (ad) 1 0 q0a) (ce2 (ci_ce dA (ad) [.null, .null, .null, .null, .null, .null, .int 0, .int 0, .int 0, .int 0, .int 0, .int 0, .int 0, .int 0] 0 cr) 1 0 (.inr (1, [.int 0, .null, .int 0]))) 0 127 (Or.inl ⟨rfl, rfl⟩) (ce2_s _ _ _ _) (show ¬ dm2 (ci_dm 0 0 0 (fun _ _ => False)) 1 0 2 0 from fun z => z.elim (fun y => absurd y.1 (by decide)) (fun y => absurd (show (0 : Nat) < 0 from y) (by decide)))) nn_25 mw_260 mw_41 rfl (by decide +kernel) rfl rfl ⟨by decide, by decide⟩ rfl hl.1 rfl (Nat.le_of_ble_eq_true rfl) d_CarDesk_init_11 ⟨by decide, by decide⟩ (fun v dm1 ad1 ce1 H locs hQ hW hS => ?_)
  obtain ⟨rfl, q0b, rfl, rfl, rfl⟩ := hQ
  have hW : cd_Wo D b0 (ci_dm 1 0 0 (fun _ _ => False)) (ad2 (ad2 (ad) 1 0 q0a) 2 0 q0b) (ci_ce dA (ad2 (ad2 (ad) 1 0 q0a) 2 0 q0b) [.null, .null, .null, .null, .null, .null, .int 0, .int 0, .int 0, .int 0, .int 0, .int 0, .int 0, .int 0] 0 cr) H := hW.sub (ci_tray dA (ad) [.null, .null, .null, .null, .null, .null, .int 0, .int 0, .int 0, .int 0, .int 0, .int 0, .int 0, .int 0] cr (fun _ _ => False) 0 q0a q0b _)
  refine cd_putF (ci := 0) (C := R_CarDesk) (T := F_CarDesk) (N := 14) (v := .ref ((ad2 (ad2 (ad) 1 0 q0a) 2 0 q0b) 1 0)) hx hb hA i_CarDesk t_CarDesk t_CarDesk_ok n_CarDesk hown hK hW hS 0 0 rfl rfl rfl 0 (by decide) mw_28 rfl rfl hnm rfl rfl rfl (Nat.le_of_ble_eq_true rfl) d_CarDesk_init_14 (ci_ce dA (ad2 (ad2 (ad) 1 0 q0a) 2 0 q0b) [.ref ((ad2 (ad2 (ad) 1 0 q0a) 2 0 q0b) 1 0), .null, .null, .null, .null, .null, .int 0, .int 0, .int 0, .int 0, .int 0, .int 0, .int 0, .int 0] 0 cr) rfl (kp_ci (fun _ z => z)) (fun H locs hW hS => ?_)
  refine lv_aload_n hx hb d_CarDesk_init_17 rfl (lv_at hl 0 rfl) ?_
  refine cd_new (ci := 1) (C := R_Tray) (T := F_Tray) (N := 3) (fs := [.int 0, .null, .int 0]) hx hb hA i_Tray t_Tray t_Tray_ok hown mw_257 mw_258 mw_41 hK hb0 hW hS rfl (fun j hj => by rcases (show j = 0 ∨ j = 1 ∨ j = 2 by omega) with rfl | rfl | rfl <;> rfl) (by decide) (by decide) d_CarDesk_init_18 1 1 (dm2 (ci_dm 1 0 0 (fun _ _ => False)) 1 1) (fun q => ad2 (ad2 (ad2 (ad) 1 0 q0a) 2 0 q0b) 1 1 q) (fun _ => ce2 (ci_ce dA (ad2 (ad2 (ad) 1 0 q0a) 2 0 q0b) [.ref ((ad2 (ad2 (ad) 1 0 q0a) 2 0 q0b) 1 0), .null, .null, .null, .null, .null, .int 0, .int 0, .int 0, .int 0, .int 0, .int 0, .int 0, .int 0] 0 cr) 1 1 (.inr (1, [.int 0, .null, .int 0]))) (fun q => ad2_s _ _ _ q) (fun _ => ce2_s _ _ _ _) (nu_2 (show ¬ (1 : Nat) < 1 by decide)) (fun q1a H hW hS => ?_)
  rw [← ad2_s (ad2 (ad2 (ad) 1 0 q0a) 2 0 q0b) 1 1 q1a]
  refine lv_dup hx hb d_CarDesk_init_21 rfl ?_
  refine lv_iconst (v := 1) hx hb d_CarDesk_init_22 (by decide) ?_
  refine cd_cIN (n := 1) (rest := [.ref ((ad2 (ad2 (ad2 (ad) 1 0 q0a) 2 0 q0b) 1 1 q1a) 1 1), .ref (ad 0 0)]) ⟨hx, hb, hml, hown, hA⟩ (cd_GA mw_259) hE hb0 hW hS ((ad2 (ad2 (ad2 (ad) 1 0 q0a) 2 0 q0b) 1 1 q1a) 1 1) (c_Tray_init l D dA b0 (dm2 (ci_dm 1 0 0 (fun _ _ => False)) 1 1) (ad2 (ad2 (ad2 (ad) 1 0 q0a) 2 0 q0b) 1 1 q1a) (ce2 (ci_ce dA (ad2 (ad2 (ad) 1 0 q0a) 2 0 q0b) [.ref ((ad2 (ad2 (ad) 1 0 q0a) 2 0 q0b) 1 0), .null, .null, .null, .null, .null, .int 0, .int 0, .int 0, .int 0, .int 0, .int 0, .int 0, .int 0] 0 cr) 1 1 (.inr (1, [.int 0, .null, .int 0]))) 1 1 (Or.inl ⟨rfl, rfl⟩) (ce2_s _ _ _ _) (show ¬ dm2 (ci_dm 1 0 0 (fun _ _ => False)) 1 1 2 1 from fun z => z.elim (fun y => absurd y.1 (by decide)) (fun y => absurd (show (1 : Nat) < 1 from y) (by decide)))) nn_25 mw_260 mw_41 rfl (by decide +kernel) rfl rfl ⟨by decide, by decide⟩ rfl hl.1 rfl (Nat.le_of_ble_eq_true rfl) d_CarDesk_init_23 ⟨by decide, by decide⟩ (fun v dm1 ad1 ce1 H locs hQ hW hS => ?_)
  obtain ⟨rfl, q1b, rfl, rfl, rfl⟩ := hQ
  have hW : cd_Wo D b0 (ci_dm 2 0 0 (fun _ _ => False)) (ad2 (ad2 (ad2 (ad2 (ad) 1 0 q0a) 2 0 q0b) 1 1 q1a) 2 1 q1b) (ci_ce dA (ad2 (ad2 (ad2 (ad2 (ad) 1 0 q0a) 2 0 q0b) 1 1 q1a) 2 1 q1b) [.ref ((ad2 (ad2 (ad) 1 0 q0a) 2 0 q0b) 1 0), .null, .null, .null, .null, .null, .int 0, .int 0, .int 0, .int 0, .int 0, .int 0, .int 0, .int 0] 0 cr) H := hW.sub (ci_tray dA (ad2 (ad2 (ad) 1 0 q0a) 2 0 q0b) [.ref ((ad2 (ad2 (ad) 1 0 q0a) 2 0 q0b) 1 0), .null, .null, .null, .null, .null, .int 0, .int 0, .int 0, .int 0, .int 0, .int 0, .int 0, .int 0] cr (fun _ _ => False) 1 q1a q1b _)
  refine cd_putF (ci := 0) (C := R_CarDesk) (T := F_CarDesk) (N := 14) (v := .ref ((ad2 (ad2 (ad2 (ad2 (ad) 1 0 q0a) 2 0 q0b) 1 1 q1a) 2 1 q1b) 1 1)) hx hb hA i_CarDesk t_CarDesk t_CarDesk_ok n_CarDesk hown hK hW hS 0 0 rfl rfl rfl 1 (by decide) mw_29 rfl rfl hnm rfl rfl rfl (Nat.le_of_ble_eq_true rfl) d_CarDesk_init_26 (ci_ce dA (ad2 (ad2 (ad2 (ad2 (ad) 1 0 q0a) 2 0 q0b) 1 1 q1a) 2 1 q1b) [.ref ((ad2 (ad2 (ad) 1 0 q0a) 2 0 q0b) 1 0), .ref ((ad2 (ad2 (ad2 (ad2 (ad) 1 0 q0a) 2 0 q0b) 1 1 q1a) 2 1 q1b) 1 1), .null, .null, .null, .null, .int 0, .int 0, .int 0, .int 0, .int 0, .int 0, .int 0, .int 0] 0 cr) rfl (kp_ci (fun _ z => z)) (fun H locs hW hS => ?_)
  refine lv_aload_n hx hb d_CarDesk_init_29 rfl (lv_at hl 0 rfl) ?_
  refine cd_new (ci := 1) (C := R_Tray) (T := F_Tray) (N := 3) (fs := [.int 0, .null, .int 0]) hx hb hA i_Tray t_Tray t_Tray_ok hown mw_257 mw_258 mw_41 hK hb0 hW hS rfl (fun j hj => by rcases (show j = 0 ∨ j = 1 ∨ j = 2 by omega) with rfl | rfl | rfl <;> rfl) (by decide) (by decide) d_CarDesk_init_30 1 2 (dm2 (ci_dm 2 0 0 (fun _ _ => False)) 1 2) (fun q => ad2 (ad2 (ad2 (ad2 (ad2 (ad) 1 0 q0a) 2 0 q0b) 1 1 q1a) 2 1 q1b) 1 2 q) (fun _ => ce2 (ci_ce dA (ad2 (ad2 (ad2 (ad2 (ad) 1 0 q0a) 2 0 q0b) 1 1 q1a) 2 1 q1b) [.ref ((ad2 (ad2 (ad) 1 0 q0a) 2 0 q0b) 1 0), .ref ((ad2 (ad2 (ad2 (ad2 (ad) 1 0 q0a) 2 0 q0b) 1 1 q1a) 2 1 q1b) 1 1), .null, .null, .null, .null, .int 0, .int 0, .int 0, .int 0, .int 0, .int 0, .int 0, .int 0] 0 cr) 1 2 (.inr (1, [.int 0, .null, .int 0]))) (fun q => ad2_s _ _ _ q) (fun _ => ce2_s _ _ _ _) (nu_2 (show ¬ (2 : Nat) < 2 by decide)) (fun q2a H hW hS => ?_)
  rw [← ad2_s (ad2 (ad2 (ad2 (ad2 (ad) 1 0 q0a) 2 0 q0b) 1 1 q1a) 2 1 q1b) 1 2 q2a]
  refine lv_dup hx hb d_CarDesk_init_33 rfl ?_
  refine lv_sipush (v := 255) hx hb d_CarDesk_init_34 (by decide) ?_
  refine cd_cIN (n := 1) (rest := [.ref ((ad2 (ad2 (ad2 (ad2 (ad2 (ad) 1 0 q0a) 2 0 q0b) 1 1 q1a) 2 1 q1b) 1 2 q2a) 1 2), .ref (ad 0 0)]) ⟨hx, hb, hml, hown, hA⟩ (cd_GA mw_259) hE hb0 hW hS ((ad2 (ad2 (ad2 (ad2 (ad2 (ad) 1 0 q0a) 2 0 q0b) 1 1 q1a) 2 1 q1b) 1 2 q2a) 1 2) (c_Tray_init l D dA b0 (dm2 (ci_dm 2 0 0 (fun _ _ => False)) 1 2) (ad2 (ad2 (ad2 (ad2 (ad2 (ad) 1 0 q0a) 2 0 q0b) 1 1 q1a) 2 1 q1b) 1 2 q2a) (ce2 (ci_ce dA (ad2 (ad2 (ad2 (ad2 (ad) 1 0 q0a) 2 0 q0b) 1 1 q1a) 2 1 q1b) [.ref ((ad2 (ad2 (ad) 1 0 q0a) 2 0 q0b) 1 0), .ref ((ad2 (ad2 (ad2 (ad2 (ad) 1 0 q0a) 2 0 q0b) 1 1 q1a) 2 1 q1b) 1 1), .null, .null, .null, .null, .int 0, .int 0, .int 0, .int 0, .int 0, .int 0, .int 0, .int 0] 0 cr) 1 2 (.inr (1, [.int 0, .null, .int 0]))) 2 255 (Or.inl ⟨rfl, rfl⟩) (ce2_s _ _ _ _) (show ¬ dm2 (ci_dm 2 0 0 (fun _ _ => False)) 1 2 2 2 from fun z => z.elim (fun y => absurd y.1 (by decide)) (fun y => absurd (show (2 : Nat) < 2 from y) (by decide)))) nn_25 mw_260 mw_41 rfl (by decide +kernel) rfl rfl ⟨by decide, by decide⟩ rfl hl.1 rfl (Nat.le_of_ble_eq_true rfl) d_CarDesk_init_37 ⟨by decide, by decide⟩ (fun v dm1 ad1 ce1 H locs hQ hW hS => ?_)
  obtain ⟨rfl, q2b, rfl, rfl, rfl⟩ := hQ
  have hW : cd_Wo D b0 (ci_dm 3 0 0 (fun _ _ => False)) (ad2 (ad2 (ad2 (ad2 (ad2 (ad2 (ad) 1 0 q0a) 2 0 q0b) 1 1 q1a) 2 1 q1b) 1 2 q2a) 2 2 q2b) (ci_ce dA (ad2 (ad2 (ad2 (ad2 (ad2 (ad2 (ad) 1 0 q0a) 2 0 q0b) 1 1 q1a) 2 1 q1b) 1 2 q2a) 2 2 q2b) [.ref ((ad2 (ad2 (ad) 1 0 q0a) 2 0 q0b) 1 0), .ref ((ad2 (ad2 (ad2 (ad2 (ad) 1 0 q0a) 2 0 q0b) 1 1 q1a) 2 1 q1b) 1 1), .null, .null, .null, .null, .int 0, .int 0, .int 0, .int 0, .int 0, .int 0, .int 0, .int 0] 0 cr) H := hW.sub (ci_tray dA (ad2 (ad2 (ad2 (ad2 (ad) 1 0 q0a) 2 0 q0b) 1 1 q1a) 2 1 q1b) [.ref ((ad2 (ad2 (ad) 1 0 q0a) 2 0 q0b) 1 0), .ref ((ad2 (ad2 (ad2 (ad2 (ad) 1 0 q0a) 2 0 q0b) 1 1 q1a) 2 1 q1b) 1 1), .null, .null, .null, .null, .int 0, .int 0, .int 0, .int 0, .int 0, .int 0, .int 0, .int 0] cr (fun _ _ => False) 2 q2a q2b _)
  refine cd_putF (ci := 0) (C := R_CarDesk) (T := F_CarDesk) (N := 14) (v := .ref ((ad2 (ad2 (ad2 (ad2 (ad2 (ad2 (ad) 1 0 q0a) 2 0 q0b) 1 1 q1a) 2 1 q1b) 1 2 q2a) 2 2 q2b) 1 2)) hx hb hA i_CarDesk t_CarDesk t_CarDesk_ok n_CarDesk hown hK hW hS 0 0 rfl rfl rfl 2 (by decide) mw_30 rfl rfl hnm rfl rfl rfl (Nat.le_of_ble_eq_true rfl) d_CarDesk_init_40 (ci_ce dA (ad2 (ad2 (ad2 (ad2 (ad2 (ad2 (ad) 1 0 q0a) 2 0 q0b) 1 1 q1a) 2 1 q1b) 1 2 q2a) 2 2 q2b) [.ref ((ad2 (ad2 (ad) 1 0 q0a) 2 0 q0b) 1 0), .ref ((ad2 (ad2 (ad2 (ad2 (ad) 1 0 q0a) 2 0 q0b) 1 1 q1a) 2 1 q1b) 1 1), .ref ((ad2 (ad2 (ad2 (ad2 (ad2 (ad2 (ad) 1 0 q0a) 2 0 q0b) 1 1 q1a) 2 1 q1b) 1 2 q2a) 2 2 q2b) 1 2), .null, .null, .null, .int 0, .int 0, .int 0, .int 0, .int 0, .int 0, .int 0, .int 0] 0 cr) rfl (kp_ci (fun _ z => z)) (fun H locs hW hS => ?_)
  refine lv_aload_n hx hb d_CarDesk_init_43 rfl (lv_at hl 0 rfl) ?_
  refine lv_bipush (v := 6) hx hb d_CarDesk_init_44 (by decide) ?_
  refine cd_newq (C := R_Shelf) (N' := 6) hx hb hA hown mw_261 hE (by decide) hb0 hW hS 2 rfl (by decide) (by decide) (by decide) (by decide) (by decide) d_CarDesk_init_46 3 0 (ci_dm 3 1 0 (fun _ _ => False)) (fun q => ad2 (ad2 (ad2 (ad2 (ad2 (ad2 (ad2 (ad) 1 0 q0a) 2 0 q0b) 1 1 q1a) 2 1 q1b) 1 2 q2a) 2 2 q2b) 3 0 q) (fun q => ci_ce dA (ad2 (ad2 (ad2 (ad2 (ad2 (ad2 (ad2 (ad) 1 0 q0a) 2 0 q0b) 1 1 q1a) 2 1 q1b) 1 2 q2a) 2 2 q2b) 3 0 q) [.ref ((ad2 (ad2 (ad) 1 0 q0a) 2 0 q0b) 1 0), .ref ((ad2 (ad2 (ad2 (ad2 (ad) 1 0 q0a) 2 0 q0b) 1 1 q1a) 2 1 q1b) 1 1), .ref ((ad2 (ad2 (ad2 (ad2 (ad2 (ad2 (ad) 1 0 q0a) 2 0 q0b) 1 1 q1a) 2 1 q1b) 1 2 q2a) 2 2 q2b) 1 2), .null, .null, .null, .int 0, .int 0, .int 0, .int 0, .int 0, .int 0, .int 0, .int 0] 0 cr) (fun q => ad2_s _ _ _ q) (fun q => by simp [ci_ce]) (ci_a3 dA (ad2 (ad2 (ad2 (ad2 (ad2 (ad2 (ad) 1 0 q0a) 2 0 q0b) 1 1 q1a) 2 1 q1b) 1 2 q2a) 2 2 q2b) [.ref ((ad2 (ad2 (ad) 1 0 q0a) 2 0 q0b) 1 0), .ref ((ad2 (ad2 (ad2 (ad2 (ad) 1 0 q0a) 2 0 q0b) 1 1 q1a) 2 1 q1b) 1 1), .ref ((ad2 (ad2 (ad2 (ad2 (ad2 (ad2 (ad) 1 0 q0a) 2 0 q0b) 1 1 q1a) 2 1 q1b) 1 2 q2a) 2 2 q2b) 1 2), .null, .null, .null, .int 0, .int 0, .int 0, .int 0, .int 0, .int 0, .int 0, .int 0] cr (fun _ _ => False)) (fun q3 H hW hS => ?_)
  rw [← ad2_s (ad2 (ad2 (ad2 (ad2 (ad2 (ad2 (ad) 1 0 q0a) 2 0 q0b) 1 1 q1a) 2 1 q1b) 1 2 q2a) 2 2 q2b) 3 0 q3]
  refine cd_putF (ci := 0) (C := R_CarDesk) (T := F_CarDesk) (N := 14) (v := .ref ((ad2 (ad2 (ad2 (ad2 (ad2 (ad2 (ad2 (ad) 1 0 q0a) 2 0 q0b) 1 1 q1a) 2 1 q1b) 1 2 q2a) 2 2 q2b) 3 0 q3) 3 0)) hx hb hA i_CarDesk t_CarDesk t_CarDesk_ok n_CarDesk hown hK hW hS 0 0 rfl rfl rfl 3 (by decide) mw_36 rfl rfl hnm rfl rfl rfl (Nat.le_of_ble_eq_true rfl) d_CarDesk_init_49 (ci_ce dA (ad2 (ad2 (ad2 (ad2 (ad2 (ad2 (ad2 (ad) 1 0 q0a) 2 0 q0b) 1 1 q1a) 2 1 q1b) 1 2 q2a) 2 2 q2b) 3 0 q3) [.ref ((ad2 (ad2 (ad) 1 0 q0a) 2 0 q0b) 1 0), .ref ((ad2 (ad2 (ad2 (ad2 (ad) 1 0 q0a) 2 0 q0b) 1 1 q1a) 2 1 q1b) 1 1), .ref ((ad2 (ad2 (ad2 (ad2 (ad2 (ad2 (ad) 1 0 q0a) 2 0 q0b) 1 1 q1a) 2 1 q1b) 1 2 q2a) 2 2 q2b) 1 2), .ref ((ad2 (ad2 (ad2 (ad2 (ad2 (ad2 (ad2 (ad) 1 0 q0a) 2 0 q0b) 1 1 q1a) 2 1 q1b) 1 2 q2a) 2 2 q2b) 3 0 q3) 3 0), .null, .null, .int 0, .int 0, .int 0, .int 0, .int 0, .int 0, .int 0, .int 0] 0 cr) rfl (kp_ci (fun _ z => z)) (fun H locs hW hS => ?_)
  refine lv_aload_n hx hb d_CarDesk_init_52 rfl (lv_at hl 0 rfl) ?_
  refine lv_bipush (v := 24) hx hb d_CarDesk_init_53 (by decide) ?_
  refine cd_newa (ty := .long) (a0 := (24, .inr (.inl (fun _ => 0)))) (N' := 24) hx hb hA mw_262 rfl hK hb0 hW hS 1 rfl (fun _ h => by cases h) (fun _ => rfl) (by decide) (by decide) (by decide) (by decide) (by decide) d_CarDesk_init_55 6 0 (ci_dm 3 2 0 (fun _ _ => False)) (fun q => ad2 (ad2 (ad2 (ad2 (ad2 (ad2 (ad2 (ad2 (ad) 1 0 q0a) 2 0 q0b) 1 1 q1a) 2 1 q1b) 1 2 q2a) 2 2 q2b) 3 0 q3) 6 0 q) (fun q => ci_ce dA (ad2 (ad2 (ad2 (ad2 (ad2 (ad2 (ad2 (ad2 (ad) 1 0 q0a) 2 0 q0b) 1 1 q1a) 2 1 q1b) 1 2 q2a) 2 2 q2b) 3 0 q3) 6 0 q) [.ref ((ad2 (ad2 (ad) 1 0 q0a) 2 0 q0b) 1 0), .ref ((ad2 (ad2 (ad2 (ad2 (ad) 1 0 q0a) 2 0 q0b) 1 1 q1a) 2 1 q1b) 1 1), .ref ((ad2 (ad2 (ad2 (ad2 (ad2 (ad2 (ad) 1 0 q0a) 2 0 q0b) 1 1 q1a) 2 1 q1b) 1 2 q2a) 2 2 q2b) 1 2), .ref ((ad2 (ad2 (ad2 (ad2 (ad2 (ad2 (ad2 (ad) 1 0 q0a) 2 0 q0b) 1 1 q1a) 2 1 q1b) 1 2 q2a) 2 2 q2b) 3 0 q3) 3 0), .null, .null, .int 0, .int 0, .int 0, .int 0, .int 0, .int 0, .int 0, .int 0] 0 cr) (fun q => ad2_s _ _ _ q) (fun _ => rfl) (ci_a6 dA (ad2 (ad2 (ad2 (ad2 (ad2 (ad2 (ad2 (ad) 1 0 q0a) 2 0 q0b) 1 1 q1a) 2 1 q1b) 1 2 q2a) 2 2 q2b) 3 0 q3) [.ref ((ad2 (ad2 (ad) 1 0 q0a) 2 0 q0b) 1 0), .ref ((ad2 (ad2 (ad2 (ad2 (ad) 1 0 q0a) 2 0 q0b) 1 1 q1a) 2 1 q1b) 1 1), .ref ((ad2 (ad2 (ad2 (ad2 (ad2 (ad2 (ad) 1 0 q0a) 2 0 q0b) 1 1 q1a) 2 1 q1b) 1 2 q2a) 2 2 q2b) 1 2), .ref ((ad2 (ad2 (ad2 (ad2 (ad2 (ad2 (ad2 (ad) 1 0 q0a) 2 0 q0b) 1 1 q1a) 2 1 q1b) 1 2 q2a) 2 2 q2b) 3 0 q3) 3 0), .null, .null, .int 0, .int 0, .int 0, .int 0, .int 0, .int 0, .int 0, .int 0] cr (fun _ _ => False)) (fun q6 H hW hS => ?_)
  rw [← ad2_s (ad2 (ad2 (ad2 (ad2 (ad2 (ad2 (ad2 (ad) 1 0 q0a) 2 0 q0b) 1 1 q1a) 2 1 q1b) 1 2 q2a) 2 2 q2b) 3 0 q3) 6 0 q6]
  refine cd_putF (ci := 0) (C := R_CarDesk) (T := F_CarDesk) (N := 14) (v := .ref ((ad2 (ad2 (ad2 (ad2 (ad2 (ad2 (ad2 (ad2 (ad) 1 0 q0a) 2 0 q0b) 1 1 q1a) 2 1 q1b) 1 2 q2a) 2 2 q2b) 3 0 q3) 6 0 q6) 6 0)) hx hb hA i_CarDesk t_CarDesk t_CarDesk_ok n_CarDesk hown hK hW hS 0 0 rfl rfl rfl 4 (by decide) mw_84 rfl rfl hnm rfl rfl rfl (Nat.le_of_ble_eq_true rfl) d_CarDesk_init_57 (ci_ce dA (ad2 (ad2 (ad2 (ad2 (ad2 (ad2 (ad2 (ad2 (ad) 1 0 q0a) 2 0 q0b) 1 1 q1a) 2 1 q1b) 1 2 q2a) 2 2 q2b) 3 0 q3) 6 0 q6) [.ref ((ad2 (ad2 (ad) 1 0 q0a) 2 0 q0b) 1 0), .ref ((ad2 (ad2 (ad2 (ad2 (ad) 1 0 q0a) 2 0 q0b) 1 1 q1a) 2 1 q1b) 1 1), .ref ((ad2 (ad2 (ad2 (ad2 (ad2 (ad2 (ad) 1 0 q0a) 2 0 q0b) 1 1 q1a) 2 1 q1b) 1 2 q2a) 2 2 q2b) 1 2), .ref ((ad2 (ad2 (ad2 (ad2 (ad2 (ad2 (ad2 (ad) 1 0 q0a) 2 0 q0b) 1 1 q1a) 2 1 q1b) 1 2 q2a) 2 2 q2b) 3 0 q3) 3 0), .ref ((ad2 (ad2 (ad2 (ad2 (ad2 (ad2 (ad2 (ad2 (ad) 1 0 q0a) 2 0 q0b) 1 1 q1a) 2 1 q1b) 1 2 q2a) 2 2 q2b) 3 0 q3) 6 0 q6) 6 0), .null, .int 0, .int 0, .int 0, .int 0, .int 0, .int 0, .int 0, .int 0] 0 cr) rfl (kp_ci (fun _ z => z)) (fun H locs hW hS => ?_)
  refine lv_aload_n hx hb d_CarDesk_init_60 rfl (lv_at hl 0 rfl) ?_
  refine lv_bipush (v := 24) hx hb d_CarDesk_init_61 (by decide) ?_
  refine cd_newa (ty := .int) (a0 := (24, .inl (fun _ => 0))) (N' := 24) hx hb hA mw_252 rfl hK hb0 hW hS 0 rfl (fun _ h => by cases h) (fun _ => rfl) (by decide) (by decide) (by decide) (by decide) (by decide) d_CarDesk_init_63 7 0 (ci_dm 3 3 0 (fun _ _ => False)) (fun q => ad2 (ad2 (ad2 (ad2 (ad2 (ad2 (ad2 (ad2 (ad2 (ad) 1 0 q0a) 2 0 q0b) 1 1 q1a) 2 1 q1b) 1 2 q2a) 2 2 q2b) 3 0 q3) 6 0 q6) 7 0 q) (fun q => ci_ce dA (ad2 (ad2 (ad2 (ad2 (ad2 (ad2 (ad2 (ad2 (ad2 (ad) 1 0 q0a) 2 0 q0b) 1 1 q1a) 2 1 q1b) 1 2 q2a) 2 2 q2b) 3 0 q3) 6 0 q6) 7 0 q) [.ref ((ad2 (ad2 (ad) 1 0 q0a) 2 0 q0b) 1 0), .ref ((ad2 (ad2 (ad2 (ad2 (ad) 1 0 q0a) 2 0 q0b) 1 1 q1a) 2 1 q1b) 1 1), .ref ((ad2 (ad2 (ad2 (ad2 (ad2 (ad2 (ad) 1 0 q0a) 2 0 q0b) 1 1 q1a) 2 1 q1b) 1 2 q2a) 2 2 q2b) 1 2), .ref ((ad2 (ad2 (ad2 (ad2 (ad2 (ad2 (ad2 (ad) 1 0 q0a) 2 0 q0b) 1 1 q1a) 2 1 q1b) 1 2 q2a) 2 2 q2b) 3 0 q3) 3 0), .ref ((ad2 (ad2 (ad2 (ad2 (ad2 (ad2 (ad2 (ad2 (ad) 1 0 q0a) 2 0 q0b) 1 1 q1a) 2 1 q1b) 1 2 q2a) 2 2 q2b) 3 0 q3) 6 0 q6) 6 0), .null, .int 0, .int 0, .int 0, .int 0, .int 0, .int 0, .int 0, .int 0] 0 cr) (fun q => ad2_s _ _ _ q) (fun _ => rfl) (ci_a7 dA (ad2 (ad2 (ad2 (ad2 (ad2 (ad2 (ad2 (ad2 (ad) 1 0 q0a) 2 0 q0b) 1 1 q1a) 2 1 q1b) 1 2 q2a) 2 2 q2b) 3 0 q3) 6 0 q6) [.ref ((ad2 (ad2 (ad) 1 0 q0a) 2 0 q0b) 1 0), .ref ((ad2 (ad2 (ad2 (ad2 (ad) 1 0 q0a) 2 0 q0b) 1 1 q1a) 2 1 q1b) 1 1), .ref ((ad2 (ad2 (ad2 (ad2 (ad2 (ad2 (ad) 1 0 q0a) 2 0 q0b) 1 1 q1a) 2 1 q1b) 1 2 q2a) 2 2 q2b) 1 2), .ref ((ad2 (ad2 (ad2 (ad2 (ad2 (ad2 (ad2 (ad) 1 0 q0a) 2 0 q0b) 1 1 q1a) 2 1 q1b) 1 2 q2a) 2 2 q2b) 3 0 q3) 3 0), .ref ((ad2 (ad2 (ad2 (ad2 (ad2 (ad2 (ad2 (ad2 (ad) 1 0 q0a) 2 0 q0b) 1 1 q1a) 2 1 q1b) 1 2 q2a) 2 2 q2b) 3 0 q3) 6 0 q6) 6 0), .null, .int 0, .int 0, .int 0, .int 0, .int 0, .int 0, .int 0, .int 0] cr (fun _ _ => False)) (fun q7 H hW hS => ?_)
  rw [← ad2_s (ad2 (ad2 (ad2 (ad2 (ad2 (ad2 (ad2 (ad2 (ad) 1 0 q0a) 2 0 q0b) 1 1 q1a) 2 1 q1b) 1 2 q2a) 2 2 q2b) 3 0 q3) 6 0 q6) 7 0 q7]
  refine cd_putF (ci := 0) (C := R_CarDesk) (T := F_CarDesk) (N := 14) (v := .ref ((ad2 (ad2 (ad2 (ad2 (ad2 (ad2 (ad2 (ad2 (ad2 (ad) 1 0 q0a) 2 0 q0b) 1 1 q1a) 2 1 q1b) 1 2 q2a) 2 2 q2b) 3 0 q3) 6 0 q6) 7 0 q7) 7 0)) hx hb hA i_CarDesk t_CarDesk t_CarDesk_ok n_CarDesk hown hK hW hS 0 0 rfl rfl rfl 5 (by decide) mw_117 rfl rfl hnm rfl rfl rfl (Nat.le_of_ble_eq_true rfl) d_CarDesk_init_65 (ci_ce dA (ad2 (ad2 (ad2 (ad2 (ad2 (ad2 (ad2 (ad2 (ad2 (ad) 1 0 q0a) 2 0 q0b) 1 1 q1a) 2 1 q1b) 1 2 q2a) 2 2 q2b) 3 0 q3) 6 0 q6) 7 0 q7) [.ref ((ad2 (ad2 (ad) 1 0 q0a) 2 0 q0b) 1 0), .ref ((ad2 (ad2 (ad2 (ad2 (ad) 1 0 q0a) 2 0 q0b) 1 1 q1a) 2 1 q1b) 1 1), .ref ((ad2 (ad2 (ad2 (ad2 (ad2 (ad2 (ad) 1 0 q0a) 2 0 q0b) 1 1 q1a) 2 1 q1b) 1 2 q2a) 2 2 q2b) 1 2), .ref ((ad2 (ad2 (ad2 (ad2 (ad2 (ad2 (ad2 (ad) 1 0 q0a) 2 0 q0b) 1 1 q1a) 2 1 q1b) 1 2 q2a) 2 2 q2b) 3 0 q3) 3 0), .ref ((ad2 (ad2 (ad2 (ad2 (ad2 (ad2 (ad2 (ad2 (ad) 1 0 q0a) 2 0 q0b) 1 1 q1a) 2 1 q1b) 1 2 q2a) 2 2 q2b) 3 0 q3) 6 0 q6) 6 0), .ref ((ad2 (ad2 (ad2 (ad2 (ad2 (ad2 (ad2 (ad2 (ad2 (ad) 1 0 q0a) 2 0 q0b) 1 1 q1a) 2 1 q1b) 1 2 q2a) 2 2 q2b) 3 0 q3) 6 0 q6) 7 0 q7) 7 0), .int 0, .int 0, .int 0, .int 0, .int 0, .int 0, .int 0, .int 0] 0 cr) rfl (kp_ci (fun _ z => z)) (fun H locs hW hS => ?_)
  obtain ⟨adF, eF⟩ : ∃ z, z = ad2 (ad2 (ad2 (ad2 (ad2 (ad2 (ad2 (ad2 (ad2 (ad) 1 0 q0a) 2 0 q0b) 1 1 q1a) 2 1 q1b) 1 2 q2a) 2 2 q2b) 3 0 q3) 6 0 q6) 7 0 q7 := ⟨_, rfl⟩
  have hW : cd_Wo D b0 (ci_dm 3 3 0 (fun _ _ => False)) adF (ci_ce dA adF (fsF adF) 0 cr) H := by rw [eF]; exact hW
  have e00 : adF 0 0 = ad 0 0 := by rw [eF]; rfl
  rw [← e00] at hl
  clear eF
  refine lv_aload_n hx hb d_CarDesk_init_68 rfl (lv_at hl 0 rfl) ?_
  refine lv_iconst (v := 0) hx hb d_CarDesk_init_69 (by decide) ?_
  refine cd_put (ci := 0) (C := R_CarDesk) (T := F_CarDesk) (N := 14) (v := .int 0) hx hb hA i_CarDesk t_CarDesk t_CarDesk_ok n_CarDesk hown hK hW hS 0 0 rfl rfl rfl 6 (by decide) mw_21 rfl rfl rfl rfl (Nat.le_of_ble_eq_true rfl) d_CarDesk_init_70 (ci_ce dA adF (fsF adF) 0 cr) rfl (fun _ _ _ _ => rfl) (fun H locs hW hS => ?_)
  refine lv_aload_n hx hb d_CarDesk_init_73 rfl (lv_at hl 0 rfl) ?_
  refine lv_iconst (v := 0) hx hb d_CarDesk_init_74 (by decide) ?_
  refine cd_put (ci := 0) (C := R_CarDesk) (T := F_CarDesk) (N := 14) (v := .int 0) hx hb hA i_CarDesk t_CarDesk t_CarDesk_ok n_CarDesk hown hK hW hS 0 0 rfl rfl rfl 7 (by decide) mw_22 rfl rfl rfl rfl (Nat.le_of_ble_eq_true rfl) d_CarDesk_init_75 (ci_ce dA adF (fsF adF) 0 cr) rfl (fun _ _ _ _ => rfl) (fun H locs hW hS => ?_)
  refine lv_aload_n hx hb d_CarDesk_init_78 rfl (lv_at hl 0 rfl) ?_
  refine lv_iconst (v := 0) hx hb d_CarDesk_init_79 (by decide) ?_
  refine cd_put (ci := 0) (C := R_CarDesk) (T := F_CarDesk) (N := 14) (v := .int 0) hx hb hA i_CarDesk t_CarDesk t_CarDesk_ok n_CarDesk hown hK hW hS 0 0 rfl rfl rfl 8 (by decide) mw_23 rfl rfl rfl rfl (Nat.le_of_ble_eq_true rfl) d_CarDesk_init_80 (ci_ce dA adF (fsF adF) 0 cr) rfl (fun _ _ _ _ => rfl) (fun H locs hW hS => ?_)
  refine lv_aload_n hx hb d_CarDesk_init_83 rfl (lv_at hl 0 rfl) ?_
  refine lv_iconst (v := 0) hx hb d_CarDesk_init_84 (by decide) ?_
  refine cd_put (ci := 0) (C := R_CarDesk) (T := F_CarDesk) (N := 14) (v := .int 0) hx hb hA i_CarDesk t_CarDesk t_CarDesk_ok n_CarDesk hown hK hW hS 0 0 rfl rfl rfl 9 (by decide) mw_24 rfl rfl rfl rfl (Nat.le_of_ble_eq_true rfl) d_CarDesk_init_85 (ci_ce dA adF (fsF adF) 0 cr) rfl (fun _ _ _ _ => rfl) (fun H locs hW hS => ?_)
  refine lv_aload_n hx hb d_CarDesk_init_88 rfl (lv_at hl 0 rfl) ?_
  refine lv_iconst (v := 0) hx hb d_CarDesk_init_89 (by decide) ?_
  refine cd_put (ci := 0) (C := R_CarDesk) (T := F_CarDesk) (N := 14) (v := .int 0) hx hb hA i_CarDesk t_CarDesk t_CarDesk_ok n_CarDesk hown hK hW hS 0 0 rfl rfl rfl 10 (by decide) mw_25 rfl rfl rfl rfl (Nat.le_of_ble_eq_true rfl) d_CarDesk_init_90 (ci_ce dA adF (fsF adF) 0 cr) rfl (fun _ _ _ _ => rfl) (fun H locs hW hS => ?_)
  refine lv_aload_n hx hb d_CarDesk_init_93 rfl (lv_at hl 0 rfl) ?_
  refine lv_iconst (v := 0) hx hb d_CarDesk_init_94 (by decide) ?_
  refine cd_put (ci := 0) (C := R_CarDesk) (T := F_CarDesk) (N := 14) (v := .int 0) hx hb hA i_CarDesk t_CarDesk t_CarDesk_ok n_CarDesk hown hK hW hS 0 0 rfl rfl rfl 11 (by decide) mw_122 rfl rfl rfl rfl (Nat.le_of_ble_eq_true rfl) d_CarDesk_init_95 (ci_ce dA adF (fsF adF) 0 cr) rfl (fun _ _ _ _ => rfl) (fun H locs hW hS => ?_)
  refine lv_aload_n hx hb d_CarDesk_init_98 rfl (lv_at hl 0 rfl) ?_
  refine lv_iconst (v := 0) hx hb d_CarDesk_init_99 (by decide) ?_
  refine cd_put (ci := 0) (C := R_CarDesk) (T := F_CarDesk) (N := 14) (v := .int 0) hx hb hA i_CarDesk t_CarDesk t_CarDesk_ok n_CarDesk hown hK hW hS 0 0 rfl rfl rfl 12 (by decide) mw_135 rfl rfl rfl rfl (Nat.le_of_ble_eq_true rfl) d_CarDesk_init_100 (ci_ce dA adF (fsF adF) 0 cr) rfl (fun _ _ _ _ => rfl) (fun H locs hW hS => ?_)
  refine lv_aload_n hx hb d_CarDesk_init_103 rfl (lv_at hl 0 rfl) ?_
  refine lv_iconst (v := 0) hx hb d_CarDesk_init_104 (by decide) ?_
  refine cd_put (ci := 0) (C := R_CarDesk) (T := F_CarDesk) (N := 14) (v := .int 0) hx hb hA i_CarDesk t_CarDesk t_CarDesk_ok n_CarDesk hown hK hW hS 0 0 rfl rfl rfl 13 (by decide) mw_116 rfl rfl rfl rfl (Nat.le_of_ble_eq_true rfl) d_CarDesk_init_105 (ci_ce dA adF (fsF adF) 0 cr) rfl (fun _ _ _ _ => rfl) (fun H locs hW hS => ?_)
  have loop : ∀ (d n : Nat), 6 = n + d → ∀ (adF : Nat → Nat → Nat) (ls : Array Slot) (H : Heap) (locs : List Loc), adF 0 0 = ad 0 0 → cd_Wo D b0 (ci_dm 3 3 n (fun _ _ => False)) adF (ci_ce dA adF (fsF adF) n cr) H → va_S (cd_A b0) s.heap H locs → lv_has ls 2 [(1, .int (nI n)), (0, .ref (adF 0 0))] → W p l e { frames := 2, cells := 21, slots := 795, locals := 33 } s m ([.ref (ad 0 0)] : List Value).toArray below meth c H locs (9 + 2 * n) (663 + 22 * n) (MQ below (cd_Q D b0 (fun v dm1 ad1 ce1 => v = none ∧ dm1 = cx_dm (cx_0, ad1, (fun _ _ => False), cr) ∧ ce1 = cx_ce dA (cx_0, ad1, (fun _ _ => False), cr) ∧ ad1 0 0 = ad 0 0)) ([.ref (ad 0 0)] : List Value).toArray s 21 795 (cd_A b0)) (F0 m 110 ls []) := by
    intro d
    induction d with
    | zero =>
      intro n hn adF ls H locs e00 hW hS hl
      have hn : 6 = n := hn
      subst hn
      refine lv_iload_n hx hb d_CarDesk_init_110 rfl (lv_at hl 0 rfl) ?_
      refine lv_bipush (v := 6) hx hb d_CarDesk_init_111 (by decide) ?_
      refine lv_icmp_ge (tgt := 135) hx hb d_CarDesk_init_113 (by decide) (fun _ => ?_) (fun q => absurd (by decide) q)
      exact cd_vret hx hb hr hlocks (ci_end dA adF cr (fun _ _ => False) hW) hS d_CarDesk_init_135 ⟨rfl, rfl, rfl, e00⟩ (Nat.le_of_ble_eq_true rfl) (Nat.le_of_ble_eq_true rfl)
    | succ d ih =>
      intro n hn adF ls H locs e00 hW hS hl
      refine lv_iload_n hx hb d_CarDesk_init_110 rfl (lv_at hl 0 rfl) ?_
      refine lv_bipush (v := 6) hx hb d_CarDesk_init_111 (by decide) ?_
      refine lv_icmp_ge (tgt := 135) hx hb d_CarDesk_init_113 (by decide) (fun q => absurd q (nI_ge (b := 6) (by omega) (by decide))) (fun _ => ?_)
      refine lv_aload_n hx hb d_CarDesk_init_116 rfl (lv_at hl 1 rfl) ?_
      refine cd_get (ci := 0) (C := R_CarDesk) (T := F_CarDesk) (N := 14) (v := .ref (adF 3 0)) hx hb hA i_CarDesk hown hK hW 0 0 rfl rfl rfl 3 (by decide) mw_36 rfl rfl d_CarDesk_init_117 ?_
      refine lv_iload_n hx hb d_CarDesk_init_120 rfl (lv_at hl 0 rfl) ?_
      refine cd_new (ci := 2) (C := R_Shelf) (T := F_Shelf) (N := 2) (fs := [.null, .int 0]) hx hb hA i_Shelf t_Shelf t_Shelf_ok hown mw_261 mw_263 mw_13 hK hb0 hW hS rfl (fun j hj => by rcases (show j = 0 ∨ j = 1 by omega) with rfl | rfl <;> rfl) (show 9 + 2 * n + 1 ≤ 21 by omega) (show 663 + 22 * n + 2 ≤ 795 by omega) d_CarDesk_init_121 4 n (dm2 (ci_dm 3 3 n (fun _ _ => False)) 4 n) (fun q => ad2 adF 4 n q) (fun _ => ce2 (ci_ce dA adF (fsF adF) n cr) 4 n (.inr (2, [.null, .int 0]))) (fun q => ad2_s _ _ _ q) (fun _ => ce2_s _ _ _ _) (nu_2 (show ¬ n < n by omega)) (fun q1 H hW hS => ?_)
      rw [← ad2_s adF 4 n q1]
      refine lv_dup hx hb d_CarDesk_init_124 rfl ?_
      refine cd_cIN (n := 0) (rest := [.ref (ad2 adF 4 n q1 4 n), .int (nI n), .ref (adF 3 0)]) ⟨hx, hb, hml, hown, hA⟩ (cd_GA mw_264) hE hb0 hW hS (ad2 adF 4 n q1 4 n) (c_Shelf_init l D dA b0 (dm2 (ci_dm 3 3 n (fun _ _ => False)) 4 n) (ad2 adF 4 n q1) (ce2 (ci_ce dA adF (fsF adF) n cr) 4 n (.inr (2, [.null, .int 0]))) n (Or.inl ⟨rfl, rfl⟩) (ce2_s _ _ _ _) (show ¬ dm2 (ci_dm 3 3 n (fun _ _ => False)) 4 n 5 n from fun z => z.elim (fun y => absurd y.1 (by decide)) (fun y => absurd (show n < n from y) (by omega)))) nn_26 mw_265 mw_13 rfl (by decide +kernel) rfl rfl ⟨by decide, by decide⟩ rfl hl.1 rfl (Nat.le_of_ble_eq_true rfl) d_CarDesk_init_125 ⟨show 9 + 2 * n + 1 + 1 ≤ 21 by omega, show 663 + 22 * n + 2 + 20 ≤ 795 by omega⟩ (fun v dm1 ad1 ce1 H locs hQ hW hS => ?_)
      obtain ⟨rfl, q2, rfl, rfl, rfl⟩ := hQ
      have hW := hW.sub (ci_shelf dA adF (fsF adF) cr (fun _ _ => False) n q1 q2 _)
      obtain ⟨adG, eG⟩ : ∃ z, z = ad2 (ad2 adF 4 n q1) 5 n q2 := ⟨_, rfl⟩
      have eg00 : adG 0 0 = adF 0 0 := by rw [eG]; rfl
      have eg3 : adG 3 0 = adF 3 0 := by rw [eG]; rfl
      have eg4 : adG 4 n = ad2 adF 4 n q1 4 n := by rw [eG]; exact ad2_n (by simp)
      have hW : cd_Wo D b0 (ci_dm 3 3 (n + 1) (fun _ _ => False)) adG (ci_ce dA adG (fsF adG) n cr) H := by rw [eG]; exact hW
      rw [← eg00] at hl
      show W p l e { frames := 2, cells := 21, slots := 795, locals := 33 } s m ([.ref (ad 0 0)] : List Value).toArray below meth c H locs _ _ _ (F0 m _ ls [.ref (ad2 adF 4 n q1 4 n), .int (nI n), .ref (adF 3 0)])
      rw [← eg4, ← eg3]
      clear eG
      refine cd_aast hx hb hK hW hS 3 0 ⟨rfl, by decide⟩ 2 4 n (show n < n + 1 by omega) 2 rfl rfl rfl rfl (vp_in_nI (show n < 6 by omega) (by decide)) d_CarDesk_init_128 (ci_ce dA adG (fsF adG) (n + 1) cr) (ci_aast dA adG (fsF adG) n (by omega) cr) (kp_aast dA adG (fsF adG) n (n + 1) cr (fun _ z => z.1)) (fun H locs hW hS => ?_)
      refine lv_iinc (v := (nI (n + 1))) (lv' := [(1, .int (nI (n + 1))), (0, .ref (adG 0 0))]) hx hb d_CarDesk_init_129 hl (k := 0) rfl (by rw [show Int32.ofInt 1 = 1 by decide]; exact nI_1 _) (by decide) rfl (fun ls hl => ?_)
      refine lv_goto (tgt := 110) hx hb d_CarDesk_init_132 (by decide) ?_
      exact ih (n + 1) (by omega) adG ls _ _ (eg00.trans e00) hW hS hl
  refine lv_iconst (v := 0) hx hb d_CarDesk_init_108 (by decide) ?_
  refine lv_istore_n (lv' := [(1, .int 0), (0, .ref (adF 0 0))]) hx hb d_CarDesk_init_109 rfl hl (by decide) rfl (fun ls hl => ?_)
  exact loop 6 0 (by omega) adF ls _ _ e00 hW hS hl
set_option maxHeartbeats 4000000 in
set_option maxRecDepth 100000 in
theorem c_Model_init (l : Launch) (D : va_G) (dA : Nat → ClassId) (b0 : Nat) (ad : Nat → Nat → Nat) (cr : Nat → Nat → va_E) (dr : Nat → Nat → Prop) : cd_Ct l D (cx_tys dA) b0 y_Model_init (.code y_Model_init b_Model_init 1 none :: cd_WA) { frames := 1, cells := 11, slots := 2193, locals := 12 } [.ref (ad 9 0)] (mi_dm 0 dr) ad (mi_ce dA ad [.int 0, .null, .null, .null, .null, .null, .null, .null, .null, .null, .null, .null, .int 0, .int 0, .int 0, .int 0, .int 0, .int 0, .int 0, .int 0] cr) (fun v dm1 ad1 ce1 => v = none ∧ dm1 = cm_dm (cm_0, ad1, dr, cr) ∧ ce1 = cm_ce dA (cm_0, ad1, dr, cr) ∧ ∀ a b, a ≠ 10 → ad1 a b = ad a b) 11 2193 := by
  refine cd_Ct.of b_Model_init 1 none (by decide) rfl ?_
  intro p e s m below meth c hx hb hr hml hown hlocks hnm hA hE hb0 hW hS ls hl
  have hK := hE.1
  have hl : lv_has ls 1 [(0, .ref (ad 9 0))] := hl
  refine lv_aload_n hx hb d_Model_init_0 rfl (lv_at hl 0 rfl) ?_
  refine cd_objI hx hb hown (hA _ mw_266) (hA _ mw_18) (hA _ mw_19) (by rw [hml]; exact hl.1) d_Model_init_1 (Nat.le_of_ble_eq_true rfl) (Nat.le_of_ble_eq_true rfl) ?_
  refine lv_aload_n hx hb d_Model_init_4 rfl (lv_at hl 0 rfl) ?_
  refine lv_sipush (v := 200) hx hb d_Model_init_5 (by decide) ?_
  refine cd_newa (ty := .int) (a0 := (200, .inl (fun _ => 0))) (N' := 200) hx hb hA mw_252 rfl hK hb0 hW hS 0 rfl (fun _ h => by cases h) (fun _ => rfl) (by decide) (by decide) (by decide) (by decide) (by decide) d_Model_init_8 10 0 (mi_dm 1 dr) (fun q => ad2 (ad) 10 0 q) (fun q => mi_ce dA (ad2 (ad) 10 0 q) [.int 0, .null, .null, .null, .null, .null, .null, .null, .null, .null, .null, .null, .int 0, .int 0, .int 0, .int 0, .int 0, .int 0, .int 0, .int 0] cr) (fun q => ad2_s _ _ _ q) (fun _ => rfl) (mi_step dA (ad) [.int 0, .null, .null, .null, .null, .null, .null, .null, .null, .null, .null, .null, .int 0, .int 0, .int 0, .int 0, .int 0, .int 0, .int 0, .int 0] cr dr 0) (fun q0 H hW hS => ?_)
  rw [← ad2_s (ad) 10 0 q0]
  obtain ⟨ad_0, ea0⟩ : ∃ z, z = ad2 (ad) 10 0 q0 := ⟨_, rfl⟩
  rw [← ea0]
  have ek0 : ∀ a b, ¬ (a = 10 ∧ b = 0) → ad_0 a b = ad a b := by rw [ea0]; exact fun a b h => ad2_n h
  have hW : cd_Wo D b0 (mi_dm 1 dr) ad_0 (mi_ce dA ad_0 [.int 0, .null, .null, .null, .null, .null, .null, .null, .null, .null, .null, .null, .int 0, .int 0, .int 0, .int 0, .int 0, .int 0, .int 0, .int 0] cr) H := by rw [ea0]; exact hW
  rw [← ek0 9 0 (by decide)] at hl
  have e9 : ad_0 9 0 = ad 9 0 := ek0 9 0 (by decide)
  show W p l e { frames := 1, cells := 11, slots := 2193, locals := 12 } s m _ below meth c H _ _ _ _ (F0 m _ ls [.ref (ad_0 10 0), .ref (ad 9 0)])
  refine mi_st e9 ?_
  have hW : cd_Wo D b0 (mi_dm 1 dr) ad_0 (mi_ce dA ad_0 [.int 0, .null, .null, .null, .null, .null, .null, .null, .null, .null, .null, .null, .int 0, .int 0, .int 0, .int 0, .int 0, .int 0, .int 0, .int 0] cr) H := by
    have hW := hW
    exact hW
  clear ea0
  refine cd_putF (ci := 4) (C := R_Model) (T := F_Model) (N := 20) (v := .ref (ad_0 10 0)) hx hb hA i_Model t_Model t_Model_ok n_Model hown hK hW hS 9 0 rfl rfl rfl 1 (by decide) mw_193 rfl rfl hnm rfl rfl rfl (Nat.le_of_ble_eq_true rfl) d_Model_init_10 (mi_ce dA ad_0 [.int 0, .ref (ad_0 10 0), .null, .null, .null, .null, .null, .null, .null, .null, .null, .null, .int 0, .int 0, .int 0, .int 0, .int 0, .int 0, .int 0, .int 0] cr) rfl (kp_mi9 (fun _ z => z)) (fun H locs hW hS => ?_)
  refine lv_aload_n hx hb d_Model_init_13 rfl (lv_at hl 0 rfl) ?_
  refine lv_sipush (v := 200) hx hb d_Model_init_14 (by decide) ?_
  refine cd_newa (ty := .int) (a0 := (200, .inl (fun _ => 0))) (N' := 200) hx hb hA mw_252 rfl hK hb0 hW hS 0 rfl (fun _ h => by cases h) (fun _ => rfl) (by decide) (by decide) (by decide) (by decide) (by decide) d_Model_init_17 10 1 (mi_dm 2 dr) (fun q => ad2 (ad_0) 10 1 q) (fun q => mi_ce dA (ad2 (ad_0) 10 1 q) [.int 0, .ref (ad_0 10 0), .null, .null, .null, .null, .null, .null, .null, .null, .null, .null, .int 0, .int 0, .int 0, .int 0, .int 0, .int 0, .int 0, .int 0] cr) (fun q => ad2_s _ _ _ q) (fun _ => rfl) (mi_step dA (ad_0) [.int 0, .ref (ad_0 10 0), .null, .null, .null, .null, .null, .null, .null, .null, .null, .null, .int 0, .int 0, .int 0, .int 0, .int 0, .int 0, .int 0, .int 0] cr dr 1) (fun q1 H hW hS => ?_)
  rw [← ad2_s (ad_0) 10 1 q1]
  obtain ⟨ad_1, ea1⟩ : ∃ z, z = ad2 (ad_0) 10 1 q1 := ⟨_, rfl⟩
  rw [← ea1]
  have ek1 : ∀ a b, ¬ (a = 10 ∧ b = 1) → ad_1 a b = ad_0 a b := by rw [ea1]; exact fun a b h => ad2_n h
  have hW : cd_Wo D b0 (mi_dm 2 dr) ad_1 (mi_ce dA ad_1 [.int 0, .ref (ad_0 10 0), .null, .null, .null, .null, .null, .null, .null, .null, .null, .null, .int 0, .int 0, .int 0, .int 0, .int 0, .int 0, .int 0, .int 0] cr) H := by rw [ea1]; exact hW
  rw [← ek1 9 0 (by decide)] at hl
  have e9 : ad_1 9 0 = ad_0 9 0 := ek1 9 0 (by decide)
  show W p l e { frames := 1, cells := 11, slots := 2193, locals := 12 } s m _ below meth c H _ _ _ _ (F0 m _ ls [.ref (ad_1 10 1), .ref (ad_0 9 0)])
  refine mi_st e9 ?_
  have hW : cd_Wo D b0 (mi_dm 2 dr) ad_1 (mi_ce dA ad_1 [.int 0, .ref (ad_1 10 0), .null, .null, .null, .null, .null, .null, .null, .null, .null, .null, .int 0, .int 0, .int 0, .int 0, .int 0, .int 0, .int 0, .int 0] cr) H := by
    have hW := hW
    rw [← ek1 10 0 (by decide)] at hW
    exact hW
  clear ea1
  refine cd_putF (ci := 4) (C := R_Model) (T := F_Model) (N := 20) (v := .ref (ad_1 10 1)) hx hb hA i_Model t_Model t_Model_ok n_Model hown hK hW hS 9 0 rfl rfl rfl 2 (by decide) mw_199 rfl rfl hnm rfl rfl rfl (Nat.le_of_ble_eq_true rfl) d_Model_init_19 (mi_ce dA ad_1 [.int 0, .ref (ad_1 10 0), .ref (ad_1 10 1), .null, .null, .null, .null, .null, .null, .null, .null, .null, .int 0, .int 0, .int 0, .int 0, .int 0, .int 0, .int 0, .int 0] cr) rfl (kp_mi9 (fun _ z => z)) (fun H locs hW hS => ?_)
  refine lv_aload_n hx hb d_Model_init_22 rfl (lv_at hl 0 rfl) ?_
  refine lv_sipush (v := 200) hx hb d_Model_init_23 (by decide) ?_
  refine cd_newa (ty := .int) (a0 := (200, .inl (fun _ => 0))) (N' := 200) hx hb hA mw_252 rfl hK hb0 hW hS 0 rfl (fun _ h => by cases h) (fun _ => rfl) (by decide) (by decide) (by decide) (by decide) (by decide) d_Model_init_26 10 2 (mi_dm 3 dr) (fun q => ad2 (ad_1) 10 2 q) (fun q => mi_ce dA (ad2 (ad_1) 10 2 q) [.int 0, .ref (ad_1 10 0), .ref (ad_1 10 1), .null, .null, .null, .null, .null, .null, .null, .null, .null, .int 0, .int 0, .int 0, .int 0, .int 0, .int 0, .int 0, .int 0] cr) (fun q => ad2_s _ _ _ q) (fun _ => rfl) (mi_step dA (ad_1) [.int 0, .ref (ad_1 10 0), .ref (ad_1 10 1), .null, .null, .null, .null, .null, .null, .null, .null, .null, .int 0, .int 0, .int 0, .int 0, .int 0, .int 0, .int 0, .int 0] cr dr 2) (fun q2 H hW hS => ?_)
  rw [← ad2_s (ad_1) 10 2 q2]
  obtain ⟨ad_2, ea2⟩ : ∃ z, z = ad2 (ad_1) 10 2 q2 := ⟨_, rfl⟩
  rw [← ea2]
  have ek2 : ∀ a b, ¬ (a = 10 ∧ b = 2) → ad_2 a b = ad_1 a b := by rw [ea2]; exact fun a b h => ad2_n h
  have hW : cd_Wo D b0 (mi_dm 3 dr) ad_2 (mi_ce dA ad_2 [.int 0, .ref (ad_1 10 0), .ref (ad_1 10 1), .null, .null, .null, .null, .null, .null, .null, .null, .null, .int 0, .int 0, .int 0, .int 0, .int 0, .int 0, .int 0, .int 0] cr) H := by rw [ea2]; exact hW
  rw [← ek2 9 0 (by decide)] at hl
  have e9 : ad_2 9 0 = ad_1 9 0 := ek2 9 0 (by decide)
  show W p l e { frames := 1, cells := 11, slots := 2193, locals := 12 } s m _ below meth c H _ _ _ _ (F0 m _ ls [.ref (ad_2 10 2), .ref (ad_1 9 0)])
  refine mi_st e9 ?_
  have hW : cd_Wo D b0 (mi_dm 3 dr) ad_2 (mi_ce dA ad_2 [.int 0, .ref (ad_2 10 0), .ref (ad_2 10 1), .null, .null, .null, .null, .null, .null, .null, .null, .null, .int 0, .int 0, .int 0, .int 0, .int 0, .int 0, .int 0, .int 0] cr) H := by
    have hW := hW
    rw [← ek2 10 0 (by decide)] at hW
    rw [← ek2 10 1 (by decide)] at hW
    exact hW
  clear ea2
  refine cd_putF (ci := 4) (C := R_Model) (T := F_Model) (N := 20) (v := .ref (ad_2 10 2)) hx hb hA i_Model t_Model t_Model_ok n_Model hown hK hW hS 9 0 rfl rfl rfl 3 (by decide) mw_196 rfl rfl hnm rfl rfl rfl (Nat.le_of_ble_eq_true rfl) d_Model_init_28 (mi_ce dA ad_2 [.int 0, .ref (ad_2 10 0), .ref (ad_2 10 1), .ref (ad_2 10 2), .null, .null, .null, .null, .null, .null, .null, .null, .int 0, .int 0, .int 0, .int 0, .int 0, .int 0, .int 0, .int 0] cr) rfl (kp_mi9 (fun _ z => z)) (fun H locs hW hS => ?_)
  refine lv_aload_n hx hb d_Model_init_31 rfl (lv_at hl 0 rfl) ?_
  refine lv_iconst (v := 3) hx hb d_Model_init_32 (by decide) ?_
  refine cd_newa (ty := .int) (a0 := (3, .inl (fun _ => 0))) (N' := 3) hx hb hA mw_252 rfl hK hb0 hW hS 0 rfl (fun _ h => by cases h) (fun _ => rfl) (by decide) (by decide) (by decide) (by decide) (by decide) d_Model_init_33 10 3 (mi_dm 4 dr) (fun q => ad2 (ad_2) 10 3 q) (fun q => mi_ce dA (ad2 (ad_2) 10 3 q) [.int 0, .ref (ad_2 10 0), .ref (ad_2 10 1), .ref (ad_2 10 2), .null, .null, .null, .null, .null, .null, .null, .null, .int 0, .int 0, .int 0, .int 0, .int 0, .int 0, .int 0, .int 0] cr) (fun q => ad2_s _ _ _ q) (fun _ => rfl) (mi_step dA (ad_2) [.int 0, .ref (ad_2 10 0), .ref (ad_2 10 1), .ref (ad_2 10 2), .null, .null, .null, .null, .null, .null, .null, .null, .int 0, .int 0, .int 0, .int 0, .int 0, .int 0, .int 0, .int 0] cr dr 3) (fun q3 H hW hS => ?_)
  rw [← ad2_s (ad_2) 10 3 q3]
  obtain ⟨ad_3, ea3⟩ : ∃ z, z = ad2 (ad_2) 10 3 q3 := ⟨_, rfl⟩
  rw [← ea3]
  have ek3 : ∀ a b, ¬ (a = 10 ∧ b = 3) → ad_3 a b = ad_2 a b := by rw [ea3]; exact fun a b h => ad2_n h
  have hW : cd_Wo D b0 (mi_dm 4 dr) ad_3 (mi_ce dA ad_3 [.int 0, .ref (ad_2 10 0), .ref (ad_2 10 1), .ref (ad_2 10 2), .null, .null, .null, .null, .null, .null, .null, .null, .int 0, .int 0, .int 0, .int 0, .int 0, .int 0, .int 0, .int 0] cr) H := by rw [ea3]; exact hW
  rw [← ek3 9 0 (by decide)] at hl
  have e9 : ad_3 9 0 = ad_2 9 0 := ek3 9 0 (by decide)
  show W p l e { frames := 1, cells := 11, slots := 2193, locals := 12 } s m _ below meth c H _ _ _ _ (F0 m _ ls [.ref (ad_3 10 3), .ref (ad_2 9 0)])
  refine mi_st e9 ?_
  have hW : cd_Wo D b0 (mi_dm 4 dr) ad_3 (mi_ce dA ad_3 [.int 0, .ref (ad_3 10 0), .ref (ad_3 10 1), .ref (ad_3 10 2), .null, .null, .null, .null, .null, .null, .null, .null, .int 0, .int 0, .int 0, .int 0, .int 0, .int 0, .int 0, .int 0] cr) H := by
    have hW := hW
    rw [← ek3 10 0 (by decide)] at hW
    rw [← ek3 10 1 (by decide)] at hW
    rw [← ek3 10 2 (by decide)] at hW
    exact hW
  clear ea3
  refine cd_putF (ci := 4) (C := R_Model) (T := F_Model) (N := 20) (v := .ref (ad_3 10 3)) hx hb hA i_Model t_Model t_Model_ok n_Model hown hK hW hS 9 0 rfl rfl rfl 4 (by decide) mw_190 rfl rfl hnm rfl rfl rfl (Nat.le_of_ble_eq_true rfl) d_Model_init_35 (mi_ce dA ad_3 [.int 0, .ref (ad_3 10 0), .ref (ad_3 10 1), .ref (ad_3 10 2), .ref (ad_3 10 3), .null, .null, .null, .null, .null, .null, .null, .int 0, .int 0, .int 0, .int 0, .int 0, .int 0, .int 0, .int 0] cr) rfl (kp_mi9 (fun _ z => z)) (fun H locs hW hS => ?_)
  refine lv_aload_n hx hb d_Model_init_38 rfl (lv_at hl 0 rfl) ?_
  refine lv_bipush (v := 24) hx hb d_Model_init_39 (by decide) ?_
  refine cd_newa (ty := .long) (a0 := (24, .inr (.inl (fun _ => 0)))) (N' := 24) hx hb hA mw_262 rfl hK hb0 hW hS 1 rfl (fun _ h => by cases h) (fun _ => rfl) (by decide) (by decide) (by decide) (by decide) (by decide) d_Model_init_41 10 4 (mi_dm 5 dr) (fun q => ad2 (ad_3) 10 4 q) (fun q => mi_ce dA (ad2 (ad_3) 10 4 q) [.int 0, .ref (ad_3 10 0), .ref (ad_3 10 1), .ref (ad_3 10 2), .ref (ad_3 10 3), .null, .null, .null, .null, .null, .null, .null, .int 0, .int 0, .int 0, .int 0, .int 0, .int 0, .int 0, .int 0] cr) (fun q => ad2_s _ _ _ q) (fun _ => rfl) (mi_step dA (ad_3) [.int 0, .ref (ad_3 10 0), .ref (ad_3 10 1), .ref (ad_3 10 2), .ref (ad_3 10 3), .null, .null, .null, .null, .null, .null, .null, .int 0, .int 0, .int 0, .int 0, .int 0, .int 0, .int 0, .int 0] cr dr 4) (fun q4 H hW hS => ?_)
  rw [← ad2_s (ad_3) 10 4 q4]
  obtain ⟨ad_4, ea4⟩ : ∃ z, z = ad2 (ad_3) 10 4 q4 := ⟨_, rfl⟩
  rw [← ea4]
  have ek4 : ∀ a b, ¬ (a = 10 ∧ b = 4) → ad_4 a b = ad_3 a b := by rw [ea4]; exact fun a b h => ad2_n h
  have hW : cd_Wo D b0 (mi_dm 5 dr) ad_4 (mi_ce dA ad_4 [.int 0, .ref (ad_3 10 0), .ref (ad_3 10 1), .ref (ad_3 10 2), .ref (ad_3 10 3), .null, .null, .null, .null, .null, .null, .null, .int 0, .int 0, .int 0, .int 0, .int 0, .int 0, .int 0, .int 0] cr) H := by rw [ea4]; exact hW
  rw [← ek4 9 0 (by decide)] at hl
  have e9 : ad_4 9 0 = ad_3 9 0 := ek4 9 0 (by decide)
  show W p l e { frames := 1, cells := 11, slots := 2193, locals := 12 } s m _ below meth c H _ _ _ _ (F0 m _ ls [.ref (ad_4 10 4), .ref (ad_3 9 0)])
  refine mi_st e9 ?_
  have hW : cd_Wo D b0 (mi_dm 5 dr) ad_4 (mi_ce dA ad_4 [.int 0, .ref (ad_4 10 0), .ref (ad_4 10 1), .ref (ad_4 10 2), .ref (ad_4 10 3), .null, .null, .null, .null, .null, .null, .null, .int 0, .int 0, .int 0, .int 0, .int 0, .int 0, .int 0, .int 0] cr) H := by
    have hW := hW
    rw [← ek4 10 0 (by decide)] at hW
    rw [← ek4 10 1 (by decide)] at hW
    rw [← ek4 10 2 (by decide)] at hW
    rw [← ek4 10 3 (by decide)] at hW
    exact hW
  clear ea4
  refine cd_putF (ci := 4) (C := R_Model) (T := F_Model) (N := 20) (v := .ref (ad_4 10 4)) hx hb hA i_Model t_Model t_Model_ok n_Model hown hK hW hS 9 0 rfl rfl rfl 5 (by decide) mw_181 rfl rfl hnm rfl rfl rfl (Nat.le_of_ble_eq_true rfl) d_Model_init_43 (mi_ce dA ad_4 [.int 0, .ref (ad_4 10 0), .ref (ad_4 10 1), .ref (ad_4 10 2), .ref (ad_4 10 3), .ref (ad_4 10 4), .null, .null, .null, .null, .null, .null, .int 0, .int 0, .int 0, .int 0, .int 0, .int 0, .int 0, .int 0] cr) rfl (kp_mi9 (fun _ z => z)) (fun H locs hW hS => ?_)
  refine lv_aload_n hx hb d_Model_init_46 rfl (lv_at hl 0 rfl) ?_
  refine lv_bipush (v := 24) hx hb d_Model_init_47 (by decide) ?_
  refine cd_newa (ty := .int) (a0 := (24, .inl (fun _ => 0))) (N' := 24) hx hb hA mw_252 rfl hK hb0 hW hS 0 rfl (fun _ h => by cases h) (fun _ => rfl) (by decide) (by decide) (by decide) (by decide) (by decide) d_Model_init_49 10 5 (mi_dm 6 dr) (fun q => ad2 (ad_4) 10 5 q) (fun q => mi_ce dA (ad2 (ad_4) 10 5 q) [.int 0, .ref (ad_4 10 0), .ref (ad_4 10 1), .ref (ad_4 10 2), .ref (ad_4 10 3), .ref (ad_4 10 4), .null, .null, .null, .null, .null, .null, .int 0, .int 0, .int 0, .int 0, .int 0, .int 0, .int 0, .int 0] cr) (fun q => ad2_s _ _ _ q) (fun _ => rfl) (mi_step dA (ad_4) [.int 0, .ref (ad_4 10 0), .ref (ad_4 10 1), .ref (ad_4 10 2), .ref (ad_4 10 3), .ref (ad_4 10 4), .null, .null, .null, .null, .null, .null, .int 0, .int 0, .int 0, .int 0, .int 0, .int 0, .int 0, .int 0] cr dr 5) (fun q5 H hW hS => ?_)
  rw [← ad2_s (ad_4) 10 5 q5]
  obtain ⟨ad_5, ea5⟩ : ∃ z, z = ad2 (ad_4) 10 5 q5 := ⟨_, rfl⟩
  rw [← ea5]
  have ek5 : ∀ a b, ¬ (a = 10 ∧ b = 5) → ad_5 a b = ad_4 a b := by rw [ea5]; exact fun a b h => ad2_n h
  have hW : cd_Wo D b0 (mi_dm 6 dr) ad_5 (mi_ce dA ad_5 [.int 0, .ref (ad_4 10 0), .ref (ad_4 10 1), .ref (ad_4 10 2), .ref (ad_4 10 3), .ref (ad_4 10 4), .null, .null, .null, .null, .null, .null, .int 0, .int 0, .int 0, .int 0, .int 0, .int 0, .int 0, .int 0] cr) H := by rw [ea5]; exact hW
  rw [← ek5 9 0 (by decide)] at hl
  have e9 : ad_5 9 0 = ad_4 9 0 := ek5 9 0 (by decide)
  show W p l e { frames := 1, cells := 11, slots := 2193, locals := 12 } s m _ below meth c H _ _ _ _ (F0 m _ ls [.ref (ad_5 10 5), .ref (ad_4 9 0)])
  refine mi_st e9 ?_
  have hW : cd_Wo D b0 (mi_dm 6 dr) ad_5 (mi_ce dA ad_5 [.int 0, .ref (ad_5 10 0), .ref (ad_5 10 1), .ref (ad_5 10 2), .ref (ad_5 10 3), .ref (ad_5 10 4), .null, .null, .null, .null, .null, .null, .int 0, .int 0, .int 0, .int 0, .int 0, .int 0, .int 0, .int 0] cr) H := by
    have hW := hW
    rw [← ek5 10 0 (by decide)] at hW
    rw [← ek5 10 1 (by decide)] at hW
    rw [← ek5 10 2 (by decide)] at hW
    rw [← ek5 10 3 (by decide)] at hW
    rw [← ek5 10 4 (by decide)] at hW
    exact hW
  clear ea5
  refine cd_putF (ci := 4) (C := R_Model) (T := F_Model) (N := 20) (v := .ref (ad_5 10 5)) hx hb hA i_Model t_Model t_Model_ok n_Model hown hK hW hS 9 0 rfl rfl rfl 6 (by decide) mw_183 rfl rfl hnm rfl rfl rfl (Nat.le_of_ble_eq_true rfl) d_Model_init_51 (mi_ce dA ad_5 [.int 0, .ref (ad_5 10 0), .ref (ad_5 10 1), .ref (ad_5 10 2), .ref (ad_5 10 3), .ref (ad_5 10 4), .ref (ad_5 10 5), .null, .null, .null, .null, .null, .int 0, .int 0, .int 0, .int 0, .int 0, .int 0, .int 0, .int 0] cr) rfl (kp_mi9 (fun _ z => z)) (fun H locs hW hS => ?_)
  refine lv_aload_n hx hb d_Model_init_54 rfl (lv_at hl 0 rfl) ?_
  refine lv_sipush (v := 384) hx hb d_Model_init_55 (by decide) ?_
  refine cd_newa (ty := .boolean) (a0 := (384, .inl (fun _ => 0))) (N' := 384) hx hb hA mw_267 rfl hK hb0 hW hS 4 rfl (fun _ h => by cases h) (fun _ => rfl) (by decide) (by decide) (by decide) (by decide) (by decide) d_Model_init_58 10 6 (mi_dm 7 dr) (fun q => ad2 (ad_5) 10 6 q) (fun q => mi_ce dA (ad2 (ad_5) 10 6 q) [.int 0, .ref (ad_5 10 0), .ref (ad_5 10 1), .ref (ad_5 10 2), .ref (ad_5 10 3), .ref (ad_5 10 4), .ref (ad_5 10 5), .null, .null, .null, .null, .null, .int 0, .int 0, .int 0, .int 0, .int 0, .int 0, .int 0, .int 0] cr) (fun q => ad2_s _ _ _ q) (fun _ => rfl) (mi_step dA (ad_5) [.int 0, .ref (ad_5 10 0), .ref (ad_5 10 1), .ref (ad_5 10 2), .ref (ad_5 10 3), .ref (ad_5 10 4), .ref (ad_5 10 5), .null, .null, .null, .null, .null, .int 0, .int 0, .int 0, .int 0, .int 0, .int 0, .int 0, .int 0] cr dr 6) (fun q6 H hW hS => ?_)
  rw [← ad2_s (ad_5) 10 6 q6]
  obtain ⟨ad_6, ea6⟩ : ∃ z, z = ad2 (ad_5) 10 6 q6 := ⟨_, rfl⟩
  rw [← ea6]
  have ek6 : ∀ a b, ¬ (a = 10 ∧ b = 6) → ad_6 a b = ad_5 a b := by rw [ea6]; exact fun a b h => ad2_n h
  have hW : cd_Wo D b0 (mi_dm 7 dr) ad_6 (mi_ce dA ad_6 [.int 0, .ref (ad_5 10 0), .ref (ad_5 10 1), .ref (ad_5 10 2), .ref (ad_5 10 3), .ref (ad_5 10 4), .ref (ad_5 10 5), .null, .null, .null, .null, .null, .int 0, .int 0, .int 0, .int 0, .int 0, .int 0, .int 0, .int 0] cr) H := by rw [ea6]; exact hW
  rw [← ek6 9 0 (by decide)] at hl
  have e9 : ad_6 9 0 = ad_5 9 0 := ek6 9 0 (by decide)
  show W p l e { frames := 1, cells := 11, slots := 2193, locals := 12 } s m _ below meth c H _ _ _ _ (F0 m _ ls [.ref (ad_6 10 6), .ref (ad_5 9 0)])
  refine mi_st e9 ?_
  have hW : cd_Wo D b0 (mi_dm 7 dr) ad_6 (mi_ce dA ad_6 [.int 0, .ref (ad_6 10 0), .ref (ad_6 10 1), .ref (ad_6 10 2), .ref (ad_6 10 3), .ref (ad_6 10 4), .ref (ad_6 10 5), .null, .null, .null, .null, .null, .int 0, .int 0, .int 0, .int 0, .int 0, .int 0, .int 0, .int 0] cr) H := by
    have hW := hW
    rw [← ek6 10 0 (by decide)] at hW
    rw [← ek6 10 1 (by decide)] at hW
    rw [← ek6 10 2 (by decide)] at hW
    rw [← ek6 10 3 (by decide)] at hW
    rw [← ek6 10 4 (by decide)] at hW
    rw [← ek6 10 5 (by decide)] at hW
    exact hW
  clear ea6
  refine cd_putF (ci := 4) (C := R_Model) (T := F_Model) (N := 20) (v := .ref (ad_6 10 6)) hx hb hA i_Model t_Model t_Model_ok n_Model hown hK hW hS 9 0 rfl rfl rfl 7 (by decide) mw_191 rfl rfl hnm rfl rfl rfl (Nat.le_of_ble_eq_true rfl) d_Model_init_60 (mi_ce dA ad_6 [.int 0, .ref (ad_6 10 0), .ref (ad_6 10 1), .ref (ad_6 10 2), .ref (ad_6 10 3), .ref (ad_6 10 4), .ref (ad_6 10 5), .ref (ad_6 10 6), .null, .null, .null, .null, .int 0, .int 0, .int 0, .int 0, .int 0, .int 0, .int 0, .int 0] cr) rfl (kp_mi9 (fun _ z => z)) (fun H locs hW hS => ?_)
  refine lv_aload_n hx hb d_Model_init_63 rfl (lv_at hl 0 rfl) ?_
  refine lv_sipush (v := 384) hx hb d_Model_init_64 (by decide) ?_
  refine cd_newa (ty := .long) (a0 := (384, .inr (.inl (fun _ => 0)))) (N' := 384) hx hb hA mw_262 rfl hK hb0 hW hS 1 rfl (fun _ h => by cases h) (fun _ => rfl) (by decide) (by decide) (by decide) (by decide) (by decide) d_Model_init_67 10 7 (mi_dm 8 dr) (fun q => ad2 (ad_6) 10 7 q) (fun q => mi_ce dA (ad2 (ad_6) 10 7 q) [.int 0, .ref (ad_6 10 0), .ref (ad_6 10 1), .ref (ad_6 10 2), .ref (ad_6 10 3), .ref (ad_6 10 4), .ref (ad_6 10 5), .ref (ad_6 10 6), .null, .null, .null, .null, .int 0, .int 0, .int 0, .int 0, .int 0, .int 0, .int 0, .int 0] cr) (fun q => ad2_s _ _ _ q) (fun _ => rfl) (mi_step dA (ad_6) [.int 0, .ref (ad_6 10 0), .ref (ad_6 10 1), .ref (ad_6 10 2), .ref (ad_6 10 3), .ref (ad_6 10 4), .ref (ad_6 10 5), .ref (ad_6 10 6), .null, .null, .null, .null, .int 0, .int 0, .int 0, .int 0, .int 0, .int 0, .int 0, .int 0] cr dr 7) (fun q7 H hW hS => ?_)
  rw [← ad2_s (ad_6) 10 7 q7]
  obtain ⟨ad_7, ea7⟩ : ∃ z, z = ad2 (ad_6) 10 7 q7 := ⟨_, rfl⟩
  rw [← ea7]
  have ek7 : ∀ a b, ¬ (a = 10 ∧ b = 7) → ad_7 a b = ad_6 a b := by rw [ea7]; exact fun a b h => ad2_n h
  have hW : cd_Wo D b0 (mi_dm 8 dr) ad_7 (mi_ce dA ad_7 [.int 0, .ref (ad_6 10 0), .ref (ad_6 10 1), .ref (ad_6 10 2), .ref (ad_6 10 3), .ref (ad_6 10 4), .ref (ad_6 10 5), .ref (ad_6 10 6), .null, .null, .null, .null, .int 0, .int 0, .int 0, .int 0, .int 0, .int 0, .int 0, .int 0] cr) H := by rw [ea7]; exact hW
  rw [← ek7 9 0 (by decide)] at hl
  have e9 : ad_7 9 0 = ad_6 9 0 := ek7 9 0 (by decide)
  show W p l e { frames := 1, cells := 11, slots := 2193, locals := 12 } s m _ below meth c H _ _ _ _ (F0 m _ ls [.ref (ad_7 10 7), .ref (ad_6 9 0)])
  refine mi_st e9 ?_
  have hW : cd_Wo D b0 (mi_dm 8 dr) ad_7 (mi_ce dA ad_7 [.int 0, .ref (ad_7 10 0), .ref (ad_7 10 1), .ref (ad_7 10 2), .ref (ad_7 10 3), .ref (ad_7 10 4), .ref (ad_7 10 5), .ref (ad_7 10 6), .null, .null, .null, .null, .int 0, .int 0, .int 0, .int 0, .int 0, .int 0, .int 0, .int 0] cr) H := by
    have hW := hW
    rw [← ek7 10 0 (by decide)] at hW
    rw [← ek7 10 1 (by decide)] at hW
    rw [← ek7 10 2 (by decide)] at hW
    rw [← ek7 10 3 (by decide)] at hW
    rw [← ek7 10 4 (by decide)] at hW
    rw [← ek7 10 5 (by decide)] at hW
    rw [← ek7 10 6 (by decide)] at hW
    exact hW
  clear ea7
  refine cd_putF (ci := 4) (C := R_Model) (T := F_Model) (N := 20) (v := .ref (ad_7 10 7)) hx hb hA i_Model t_Model t_Model_ok n_Model hown hK hW hS 9 0 rfl rfl rfl 8 (by decide) mw_211 rfl rfl hnm rfl rfl rfl (Nat.le_of_ble_eq_true rfl) d_Model_init_69 (mi_ce dA ad_7 [.int 0, .ref (ad_7 10 0), .ref (ad_7 10 1), .ref (ad_7 10 2), .ref (ad_7 10 3), .ref (ad_7 10 4), .ref (ad_7 10 5), .ref (ad_7 10 6), .ref (ad_7 10 7), .null, .null, .null, .int 0, .int 0, .int 0, .int 0, .int 0, .int 0, .int 0, .int 0] cr) rfl (kp_mi9 (fun _ z => z)) (fun H locs hW hS => ?_)
  refine lv_aload_n hx hb d_Model_init_72 rfl (lv_at hl 0 rfl) ?_
  refine lv_sipush (v := 384) hx hb d_Model_init_73 (by decide) ?_
  refine cd_newa (ty := .int) (a0 := (384, .inl (fun _ => 0))) (N' := 384) hx hb hA mw_252 rfl hK hb0 hW hS 0 rfl (fun _ h => by cases h) (fun _ => rfl) (by decide) (by decide) (by decide) (by decide) (by decide) d_Model_init_76 10 8 (mi_dm 9 dr) (fun q => ad2 (ad_7) 10 8 q) (fun q => mi_ce dA (ad2 (ad_7) 10 8 q) [.int 0, .ref (ad_7 10 0), .ref (ad_7 10 1), .ref (ad_7 10 2), .ref (ad_7 10 3), .ref (ad_7 10 4), .ref (ad_7 10 5), .ref (ad_7 10 6), .ref (ad_7 10 7), .null, .null, .null, .int 0, .int 0, .int 0, .int 0, .int 0, .int 0, .int 0, .int 0] cr) (fun q => ad2_s _ _ _ q) (fun _ => rfl) (mi_step dA (ad_7) [.int 0, .ref (ad_7 10 0), .ref (ad_7 10 1), .ref (ad_7 10 2), .ref (ad_7 10 3), .ref (ad_7 10 4), .ref (ad_7 10 5), .ref (ad_7 10 6), .ref (ad_7 10 7), .null, .null, .null, .int 0, .int 0, .int 0, .int 0, .int 0, .int 0, .int 0, .int 0] cr dr 8) (fun q8 H hW hS => ?_)
  rw [← ad2_s (ad_7) 10 8 q8]
  obtain ⟨ad_8, ea8⟩ : ∃ z, z = ad2 (ad_7) 10 8 q8 := ⟨_, rfl⟩
  rw [← ea8]
  have ek8 : ∀ a b, ¬ (a = 10 ∧ b = 8) → ad_8 a b = ad_7 a b := by rw [ea8]; exact fun a b h => ad2_n h
  have hW : cd_Wo D b0 (mi_dm 9 dr) ad_8 (mi_ce dA ad_8 [.int 0, .ref (ad_7 10 0), .ref (ad_7 10 1), .ref (ad_7 10 2), .ref (ad_7 10 3), .ref (ad_7 10 4), .ref (ad_7 10 5), .ref (ad_7 10 6), .ref (ad_7 10 7), .null, .null, .null, .int 0, .int 0, .int 0, .int 0, .int 0, .int 0, .int 0, .int 0] cr) H := by rw [ea8]; exact hW
  rw [← ek8 9 0 (by decide)] at hl
  have e9 : ad_8 9 0 = ad_7 9 0 := ek8 9 0 (by decide)
  show W p l e { frames := 1, cells := 11, slots := 2193, locals := 12 } s m _ below meth c H _ _ _ _ (F0 m _ ls [.ref (ad_8 10 8), .ref (ad_7 9 0)])
  refine mi_st e9 ?_
  have hW : cd_Wo D b0 (mi_dm 9 dr) ad_8 (mi_ce dA ad_8 [.int 0, .ref (ad_8 10 0), .ref (ad_8 10 1), .ref (ad_8 10 2), .ref (ad_8 10 3), .ref (ad_8 10 4), .ref (ad_8 10 5), .ref (ad_8 10 6), .ref (ad_8 10 7), .null, .null, .null, .int 0, .int 0, .int 0, .int 0, .int 0, .int 0, .int 0, .int 0] cr) H := by
    have hW := hW
    rw [← ek8 10 0 (by decide)] at hW
    rw [← ek8 10 1 (by decide)] at hW
    rw [← ek8 10 2 (by decide)] at hW
    rw [← ek8 10 3 (by decide)] at hW
    rw [← ek8 10 4 (by decide)] at hW
    rw [← ek8 10 5 (by decide)] at hW
    rw [← ek8 10 6 (by decide)] at hW
    rw [← ek8 10 7 (by decide)] at hW
    exact hW
  clear ea8
  refine cd_putF (ci := 4) (C := R_Model) (T := F_Model) (N := 20) (v := .ref (ad_8 10 8)) hx hb hA i_Model t_Model t_Model_ok n_Model hown hK hW hS 9 0 rfl rfl rfl 9 (by decide) mw_206 rfl rfl hnm rfl rfl rfl (Nat.le_of_ble_eq_true rfl) d_Model_init_78 (mi_ce dA ad_8 [.int 0, .ref (ad_8 10 0), .ref (ad_8 10 1), .ref (ad_8 10 2), .ref (ad_8 10 3), .ref (ad_8 10 4), .ref (ad_8 10 5), .ref (ad_8 10 6), .ref (ad_8 10 7), .ref (ad_8 10 8), .null, .null, .int 0, .int 0, .int 0, .int 0, .int 0, .int 0, .int 0, .int 0] cr) rfl (kp_mi9 (fun _ z => z)) (fun H locs hW hS => ?_)
  refine lv_aload_n hx hb d_Model_init_81 rfl (lv_at hl 0 rfl) ?_
  refine lv_sipush (v := 384) hx hb d_Model_init_82 (by decide) ?_
  refine cd_newa (ty := .int) (a0 := (384, .inl (fun _ => 0))) (N' := 384) hx hb hA mw_252 rfl hK hb0 hW hS 0 rfl (fun _ h => by cases h) (fun _ => rfl) (by decide) (by decide) (by decide) (by decide) (by decide) d_Model_init_85 10 9 (mi_dm 10 dr) (fun q => ad2 (ad_8) 10 9 q) (fun q => mi_ce dA (ad2 (ad_8) 10 9 q) [.int 0, .ref (ad_8 10 0), .ref (ad_8 10 1), .ref (ad_8 10 2), .ref (ad_8 10 3), .ref (ad_8 10 4), .ref (ad_8 10 5), .ref (ad_8 10 6), .ref (ad_8 10 7), .ref (ad_8 10 8), .null, .null, .int 0, .int 0, .int 0, .int 0, .int 0, .int 0, .int 0, .int 0] cr) (fun q => ad2_s _ _ _ q) (fun _ => rfl) (mi_step dA (ad_8) [.int 0, .ref (ad_8 10 0), .ref (ad_8 10 1), .ref (ad_8 10 2), .ref (ad_8 10 3), .ref (ad_8 10 4), .ref (ad_8 10 5), .ref (ad_8 10 6), .ref (ad_8 10 7), .ref (ad_8 10 8), .null, .null, .int 0, .int 0, .int 0, .int 0, .int 0, .int 0, .int 0, .int 0] cr dr 9) (fun q9 H hW hS => ?_)
  rw [← ad2_s (ad_8) 10 9 q9]
  obtain ⟨ad_9, ea9⟩ : ∃ z, z = ad2 (ad_8) 10 9 q9 := ⟨_, rfl⟩
  rw [← ea9]
  have ek9 : ∀ a b, ¬ (a = 10 ∧ b = 9) → ad_9 a b = ad_8 a b := by rw [ea9]; exact fun a b h => ad2_n h
  have hW : cd_Wo D b0 (mi_dm 10 dr) ad_9 (mi_ce dA ad_9 [.int 0, .ref (ad_8 10 0), .ref (ad_8 10 1), .ref (ad_8 10 2), .ref (ad_8 10 3), .ref (ad_8 10 4), .ref (ad_8 10 5), .ref (ad_8 10 6), .ref (ad_8 10 7), .ref (ad_8 10 8), .null, .null, .int 0, .int 0, .int 0, .int 0, .int 0, .int 0, .int 0, .int 0] cr) H := by rw [ea9]; exact hW
  rw [← ek9 9 0 (by decide)] at hl
  have e9 : ad_9 9 0 = ad_8 9 0 := ek9 9 0 (by decide)
  show W p l e { frames := 1, cells := 11, slots := 2193, locals := 12 } s m _ below meth c H _ _ _ _ (F0 m _ ls [.ref (ad_9 10 9), .ref (ad_8 9 0)])
  refine mi_st e9 ?_
  have hW : cd_Wo D b0 (mi_dm 10 dr) ad_9 (mi_ce dA ad_9 [.int 0, .ref (ad_9 10 0), .ref (ad_9 10 1), .ref (ad_9 10 2), .ref (ad_9 10 3), .ref (ad_9 10 4), .ref (ad_9 10 5), .ref (ad_9 10 6), .ref (ad_9 10 7), .ref (ad_9 10 8), .null, .null, .int 0, .int 0, .int 0, .int 0, .int 0, .int 0, .int 0, .int 0] cr) H := by
    have hW := hW
    rw [← ek9 10 0 (by decide)] at hW
    rw [← ek9 10 1 (by decide)] at hW
    rw [← ek9 10 2 (by decide)] at hW
    rw [← ek9 10 3 (by decide)] at hW
    rw [← ek9 10 4 (by decide)] at hW
    rw [← ek9 10 5 (by decide)] at hW
    rw [← ek9 10 6 (by decide)] at hW
    rw [← ek9 10 7 (by decide)] at hW
    rw [← ek9 10 8 (by decide)] at hW
    exact hW
  clear ea9
  refine cd_putF (ci := 4) (C := R_Model) (T := F_Model) (N := 20) (v := .ref (ad_9 10 9)) hx hb hA i_Model t_Model t_Model_ok n_Model hown hK hW hS 9 0 rfl rfl rfl 10 (by decide) mw_200 rfl rfl hnm rfl rfl rfl (Nat.le_of_ble_eq_true rfl) d_Model_init_87 (mi_ce dA ad_9 [.int 0, .ref (ad_9 10 0), .ref (ad_9 10 1), .ref (ad_9 10 2), .ref (ad_9 10 3), .ref (ad_9 10 4), .ref (ad_9 10 5), .ref (ad_9 10 6), .ref (ad_9 10 7), .ref (ad_9 10 8), .ref (ad_9 10 9), .null, .int 0, .int 0, .int 0, .int 0, .int 0, .int 0, .int 0, .int 0] cr) rfl (kp_mi9 (fun _ z => z)) (fun H locs hW hS => ?_)
  refine lv_aload_n hx hb d_Model_init_90 rfl (lv_at hl 0 rfl) ?_
  refine lv_bipush (v := 6) hx hb d_Model_init_91 (by decide) ?_
  refine cd_newa (ty := .int) (a0 := (6, .inl (fun _ => 0))) (N' := 6) hx hb hA mw_252 rfl hK hb0 hW hS 0 rfl (fun _ h => by cases h) (fun _ => rfl) (by decide) (by decide) (by decide) (by decide) (by decide) d_Model_init_93 10 10 (mi_dm 11 dr) (fun q => ad2 (ad_9) 10 10 q) (fun q => mi_ce dA (ad2 (ad_9) 10 10 q) [.int 0, .ref (ad_9 10 0), .ref (ad_9 10 1), .ref (ad_9 10 2), .ref (ad_9 10 3), .ref (ad_9 10 4), .ref (ad_9 10 5), .ref (ad_9 10 6), .ref (ad_9 10 7), .ref (ad_9 10 8), .ref (ad_9 10 9), .null, .int 0, .int 0, .int 0, .int 0, .int 0, .int 0, .int 0, .int 0] cr) (fun q => ad2_s _ _ _ q) (fun _ => rfl) (mi_step dA (ad_9) [.int 0, .ref (ad_9 10 0), .ref (ad_9 10 1), .ref (ad_9 10 2), .ref (ad_9 10 3), .ref (ad_9 10 4), .ref (ad_9 10 5), .ref (ad_9 10 6), .ref (ad_9 10 7), .ref (ad_9 10 8), .ref (ad_9 10 9), .null, .int 0, .int 0, .int 0, .int 0, .int 0, .int 0, .int 0, .int 0] cr dr 10) (fun q10 H hW hS => ?_)
  rw [← ad2_s (ad_9) 10 10 q10]
  obtain ⟨ad_10, ea10⟩ : ∃ z, z = ad2 (ad_9) 10 10 q10 := ⟨_, rfl⟩
  rw [← ea10]
  have ek10 : ∀ a b, ¬ (a = 10 ∧ b = 10) → ad_10 a b = ad_9 a b := by rw [ea10]; exact fun a b h => ad2_n h
  have hW : cd_Wo D b0 (mi_dm 11 dr) ad_10 (mi_ce dA ad_10 [.int 0, .ref (ad_9 10 0), .ref (ad_9 10 1), .ref (ad_9 10 2), .ref (ad_9 10 3), .ref (ad_9 10 4), .ref (ad_9 10 5), .ref (ad_9 10 6), .ref (ad_9 10 7), .ref (ad_9 10 8), .ref (ad_9 10 9), .null, .int 0, .int 0, .int 0, .int 0, .int 0, .int 0, .int 0, .int 0] cr) H := by rw [ea10]; exact hW
  rw [← ek10 9 0 (by decide)] at hl
  have e9 : ad_10 9 0 = ad_9 9 0 := ek10 9 0 (by decide)
  show W p l e { frames := 1, cells := 11, slots := 2193, locals := 12 } s m _ below meth c H _ _ _ _ (F0 m _ ls [.ref (ad_10 10 10), .ref (ad_9 9 0)])
  refine mi_st e9 ?_
  have hW : cd_Wo D b0 (mi_dm 11 dr) ad_10 (mi_ce dA ad_10 [.int 0, .ref (ad_10 10 0), .ref (ad_10 10 1), .ref (ad_10 10 2), .ref (ad_10 10 3), .ref (ad_10 10 4), .ref (ad_10 10 5), .ref (ad_10 10 6), .ref (ad_10 10 7), .ref (ad_10 10 8), .ref (ad_10 10 9), .null, .int 0, .int 0, .int 0, .int 0, .int 0, .int 0, .int 0, .int 0] cr) H := by
    have hW := hW
    rw [← ek10 10 0 (by decide)] at hW
    rw [← ek10 10 1 (by decide)] at hW
    rw [← ek10 10 2 (by decide)] at hW
    rw [← ek10 10 3 (by decide)] at hW
    rw [← ek10 10 4 (by decide)] at hW
    rw [← ek10 10 5 (by decide)] at hW
    rw [← ek10 10 6 (by decide)] at hW
    rw [← ek10 10 7 (by decide)] at hW
    rw [← ek10 10 8 (by decide)] at hW
    rw [← ek10 10 9 (by decide)] at hW
    exact hW
  clear ea10
  refine cd_putF (ci := 4) (C := R_Model) (T := F_Model) (N := 20) (v := .ref (ad_10 10 10)) hx hb hA i_Model t_Model t_Model_ok n_Model hown hK hW hS 9 0 rfl rfl rfl 11 (by decide) mw_230 rfl rfl hnm rfl rfl rfl (Nat.le_of_ble_eq_true rfl) d_Model_init_95 (mi_ce dA ad_10 [.int 0, .ref (ad_10 10 0), .ref (ad_10 10 1), .ref (ad_10 10 2), .ref (ad_10 10 3), .ref (ad_10 10 4), .ref (ad_10 10 5), .ref (ad_10 10 6), .ref (ad_10 10 7), .ref (ad_10 10 8), .ref (ad_10 10 9), .ref (ad_10 10 10), .int 0, .int 0, .int 0, .int 0, .int 0, .int 0, .int 0, .int 0] cr) rfl (kp_mi9 (fun _ z => z)) (fun H locs hW hS => ?_)
  exact cd_vret hx hb hr hlocks (mi_end dA ad_10 cr dr hW) hS d_Model_init_98 ⟨rfl, rfl, rfl, fun a b h => ((ek10 a b (fun z => h z.1)).trans ((ek9 a b (fun z => h z.1)).trans ((ek8 a b (fun z => h z.1)).trans ((ek7 a b (fun z => h z.1)).trans ((ek6 a b (fun z => h z.1)).trans ((ek5 a b (fun z => h z.1)).trans ((ek4 a b (fun z => h z.1)).trans ((ek3 a b (fun z => h z.1)).trans ((ek2 a b (fun z => h z.1)).trans ((ek1 a b (fun z => h z.1)).trans ((ek0 a b (fun z => h z.1)))))))))))))⟩ (Nat.le_of_ble_eq_true rfl) (Nat.le_of_ble_eq_true rfl)
