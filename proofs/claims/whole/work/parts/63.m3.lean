def f_Model_make1 (w : cm_W)  : Int32 × cm_W := if 0 ≤ (f_Model_latest (u_mc w 0 0) 0) then (if (x_mi w 10 1) = 20 then ((f_Model_refuse (u_mc w 0 0) (-4)).1, (f_Model_refuse (u_mc w 0 0) (-4)).2) else (((64 * 1) + ((x_mi w 10 1) + 1)), (u_mc (u_mc (u_mi (u_mi (u_ml (u_mi (u_mi (u_mc w 0 0) 10 1 ((x_mi w 10 1) + 1)) 6 (((64 * 1) + ((x_mi w 10 1) + 1)).toNatClampNeg) 1) 7 (((64 * 1) + ((x_mi w 10 1) + 1)).toNatClampNeg) (x_ml w 7 ((f_Model_latest (u_mc w 0 0) 0).toNatClampNeg))) 8 (((64 * 1) + ((x_mi w 10 1) + 1)).toNatClampNeg) 0) 9 (((64 * 1) + ((x_mi w 10 1) + 1)).toNatClampNeg) (f_Model_latest (u_mc w 0 0) 0)) 7 ((x_mc w 7) + 1)) 8 ((x_mc w 8) + 1)))) else ((f_Model_refuse (u_mc w 0 0) (-3)).1, (f_Model_refuse (u_mc w 0 0) (-3)).2)
set_option maxHeartbeats 4000000 in
set_option maxRecDepth 100000 in
theorem c_Model_make1 (l : Launch) (D : va_G) (dA : Nat → ClassId) (b0 : Nat) (w : cm_W) (hco : ∀ t, t < 3 → ∃ c, c ≤ 200 ∧ x_mi w 3 t = nI c) (hma : ∀ k, k < 6 → ∃ c, c ≤ 20 ∧ x_mi w 10 k = nI c) : cd_Ct l D (cx_tys dA) b0 y_Model_make (.code y_Model_make b_Model_make 7 (some .int) :: cd_WA) { frames := 1, cells := 0, slots := 0, locals := 25 } [.ref (m_ad w 9 0), .int 1] (cm_dm w) (m_ad w) (cm_ce dA w) (cm_R dA (some (.int (f_Model_make1 w).1)) (f_Model_make1 w).2) 0 0 := by
  refine cd_Ct.of b_Model_make 7 (some .int) (by decide) rfl ?_
  intro p e s m below meth c hx hb hr hml hown hlocks hnm hA hE hb0 hW hS ls hl
  have hK := hE.1
  have hl : lv_has ls 7 [(0, .ref (m_ad w 9 0)), (1, .int 1)] := hl
  refine lv_aload_n hx hb d_Model_make_0 rfl (lv_at hl 0 rfl) ?_
  refine lv_iconst (v := 0) hx hb d_Model_make_1 (by decide) ?_
  refine cd_put (ci := 4) (C := R_Model) (T := F_Model) (N := 20) (v := .int 0) hx hb hA i_Model t_Model t_Model_ok n_Model hown hK hW hS 9 0 rfl rfl rfl 0 (by decide) mw_172 rfl rfl rfl rfl (Nat.le_of_ble_eq_true rfl) d_Model_make_2 (cm_ce dA (u_mc w 0 0)) rfl (kp_mc dA w 0 0) (fun H locs hW hS => ?_)
  have hW : cm_Wo D dA b0 (u_mc w 0 0) H := to_mc hW
  refine lv_iload_n hx hb d_Model_make_5 rfl (lv_at hl 1 rfl) ?_
  refine lv_if_lt (tgt := 14) hx hb d_Model_make_6 (by decide) (fun c_1 => absurd c_1 (by decide)) (fun _ => ?_)
  refine lv_iload_n hx hb d_Model_make_9 rfl (lv_at hl 1 rfl) ?_
  refine lv_iconst (v := 5) hx hb d_Model_make_10 (by decide) ?_
  refine lv_icmp_le (tgt := 20) hx hb d_Model_make_11 (by decide) (fun _ => ?_) (fun c_2 => absurd (by decide) c_2)
  refine lv_iload_n hx hb d_Model_make_20 rfl (lv_at hl 1 rfl) ?_
  refine lv_if_ne (tgt := 28) hx hb d_Model_make_21 (by decide) (fun _ => ?_) (fun c_3 => absurd c_3 (by decide))
  refine lv_iload_n hx hb d_Model_make_28 rfl (lv_at hl 1 rfl) ?_
  refine lv_iconst (v := 2) hx hb d_Model_make_29 (by decide) ?_
  refine lv_icmp_ne (tgt := 37) hx hb d_Model_make_30 (by decide) (fun _ => ?_) (fun c_4 => absurd c_4 (by decide))
  refine lv_iload_n hx hb d_Model_make_37 rfl (lv_at hl 1 rfl) ?_
  refine lv_iconst (v := 4) hx hb d_Model_make_38 (by decide) ?_
  refine lv_icmp_ne (tgt := 46) hx hb d_Model_make_39 (by decide) (fun _ => ?_) (fun c_5 => absurd c_5 (by decide))
  refine lv_iconst (v := (-1)) hx hb d_Model_make_46 (by decide) ?_
  refine lv_istore_n (lv' := [(2, .int (-1)), (0, .ref (m_ad w 9 0)), (1, .int 1)]) hx hb d_Model_make_47 rfl hl (by decide) rfl (fun ls hl => ?_)
  refine lv_iload_n hx hb d_Model_make_48 rfl (lv_at hl 2 rfl) ?_
  refine lv_iconst (v := 1) hx hb d_Model_make_49 (by decide) ?_
  refine lv_icmp_ne (tgt := 61) hx hb d_Model_make_50 (by decide) (fun c_6 => absurd (by decide) c_6) (fun _ => ?_)
  refine lv_aload_n hx hb d_Model_make_53 rfl (lv_at hl 1 rfl) ?_
  refine lv_iconst (v := 0) hx hb d_Model_make_54 (by decide) ?_
  refine cm_cV (w0 := (u_mc w 0 0)) (x0 := .int (f_Model_latest (u_mc w 0 0) 0)) (rest := []) (n := 1) ⟨hx, hb, hml, hown, hA⟩ (cd_GA mw_235) hE hb0 hW hS 9 0 rfl rfl rfl (c_Model_latest l D dA b0 (u_mc w 0 0) 0 (by decide)) mw_238 mw_236 mw_237 mw_174 (by decide +kernel) rfl rfl ⟨by decide, by decide⟩ rfl hl.1 rfl (Nat.le_of_ble_eq_true rfl) d_Model_make_55 ⟨by decide, by decide⟩ (fun H locs hW hS => ?_)
  refine lv_goto (tgt := 80) hx hb d_Model_make_58 (by decide) ?_
  refine lv_istore_n (lv' := [(3, .int (f_Model_latest (u_mc w 0 0) 0)), (2, .int (-1)), (0, .ref (m_ad w 9 0)), (1, .int 1)]) hx hb d_Model_make_80 rfl hl (by decide) rfl (fun ls hl => ?_)
  refine lv_iload_n hx hb d_Model_make_81 rfl (lv_at hl 1 rfl) ?_
  refine lv_if_lt (tgt := 97) hx hb d_Model_make_82 (by decide) (fun _ => ?_) (fun c_7 => absurd (by decide) c_7)
  refine lv_iload_n hx hb d_Model_make_97 rfl (lv_at hl 0 rfl) ?_
  refine lv_if_ge (tgt := 108) hx hb d_Model_make_98 (by decide) (fun c_8 => ?_) (fun c_8 => ?_)
  · skip
    refine lv_aload_n hx hb d_Model_make_108 rfl (lv_at hl 2 rfl) ?_
    refine cd_get (ci := 4) (C := R_Model) (T := F_Model) (N := 20) (v := .ref (m_ad w 10 10)) hx hb hA i_Model hown hK hW 9 0 rfl rfl rfl 11 (by decide) mw_230 rfl rfl d_Model_make_109 ?_
    refine lv_iload_n hx hb d_Model_make_112 rfl (lv_at hl 3 rfl) ?_
    refine cd_iald hx hb hK hW 10 10 (show (10 : Nat) < 11 from by decide) 0 rfl rfl (vp_in_nI (n := 1) (by decide) (by decide)) d_Model_make_113 ?_
    rw [show ((1 : Int32)).toNatClampNeg = 1 by decide]
    refine lv_bipush (v := 20) hx hb d_Model_make_114 (by decide) ?_
    refine lv_icmp_ne (tgt := 126) hx hb d_Model_make_116 (by decide) (fun c_9 => ?_) (fun c_9 => ?_)
    · skip
      refine lv_iload_n hx hb d_Model_make_126 rfl (lv_at hl 3 rfl) ?_
      refine lv_if_ne (tgt := 137) hx hb d_Model_make_127 (by decide) (fun _ => ?_) (fun c_10 => absurd c_10 (by decide))
      refine lv_iload_n hx hb d_Model_make_137 rfl (lv_at hl 3 rfl) ?_
      refine lv_iconst (v := 1) hx hb d_Model_make_138 (by decide) ?_
      refine lv_icmp_ne (tgt := 151) hx hb d_Model_make_139 (by decide) (fun c_11 => absurd (by decide) c_11) (fun _ => ?_)
      refine lv_aload_n hx hb d_Model_make_142 rfl (lv_at hl 2 rfl) ?_
      refine cd_get (ci := 4) (C := R_Model) (T := F_Model) (N := 20) (v := .ref (m_ad w 10 7)) hx hb hA i_Model hown hK hW 9 0 rfl rfl rfl 8 (by decide) mw_211 rfl rfl d_Model_make_143 ?_
      refine lv_iload_n hx hb d_Model_make_146 rfl (lv_at hl 0 rfl) ?_
      refine cd_lald hx hb hK hW 10 7 (show (7 : Nat) < 11 from by decide) 1 rfl rfl (la_in (by decide) c_8) d_Model_make_147 ?_
      refine lv_goto (tgt := 190) hx hb d_Model_make_148 (by decide) ?_
      refine lv_lstore (lv' := [(4, .long (x_ml w 7 ((f_Model_latest (u_mc w 0 0) 0).toNatClampNeg))), (3, .int (f_Model_latest (u_mc w 0 0) 0)), (2, .int (-1)), (0, .ref (m_ad w 9 0)), (1, .int 1)]) hx hb d_Model_make_190 hl (by decide) rfl (fun ls hl => ?_)
      refine lv_iload_n hx hb d_Model_make_192 rfl (lv_at hl 2 rfl) ?_
      refine lv_if_lt (tgt := 203) hx hb d_Model_make_193 (by decide) (fun _ => ?_) (fun c_12 => absurd (by decide) c_12)
      refine lv_aload_n hx hb d_Model_make_203 rfl (lv_at hl 3 rfl) ?_
      refine cd_get (ci := 4) (C := R_Model) (T := F_Model) (N := 20) (v := .ref (m_ad w 10 10)) hx hb hA i_Model hown hK hW 9 0 rfl rfl rfl 11 (by decide) mw_230 rfl rfl d_Model_make_204 ?_
      refine lv_iload_n hx hb d_Model_make_207 rfl (lv_at hl 4 rfl) ?_
      refine lv_dup2_11 hx hb d_Model_make_208 rfl rfl ?_
      refine cd_iald hx hb hK hW 10 10 (show (10 : Nat) < 11 from by decide) 0 rfl rfl (vp_in_nI (n := 1) (by decide) (by decide)) d_Model_make_209 ?_
      rw [show ((1 : Int32)).toNatClampNeg = 1 by decide]
      refine lv_iconst (v := 1) hx hb d_Model_make_210 (by decide) ?_
      refine lv_iadd hx hb d_Model_make_211 ?_
      refine cd_iast hx hb hK hW hS 10 10 (show (10 : Nat) < 11 from by decide) 0 rfl rfl (vp_in_nI (n := 1) (by decide) (by decide)) d_Model_make_212 (cm_ce dA (u_mi (u_mc w 0 0) 10 1 ((x_mi w 10 1) + 1))) (by rw [show ((1 : Int32)).toNatClampNeg = 1 by decide]; rfl) (kp_mi dA (u_mc w 0 0) 10 1 ((x_mi w 10 1) + 1)) (fun H locs hW hS => ?_)
      have hW : cm_Wo D dA b0 (u_mi (u_mc w 0 0) 10 1 ((x_mi w 10 1) + 1)) H := to_mi hW
      refine lv_bipush (v := 64) hx hb d_Model_make_213 (by decide) ?_
      refine lv_iload_n hx hb d_Model_make_215 rfl (lv_at hl 4 rfl) ?_
      refine lv_imul hx hb d_Model_make_216 ?_
      refine lv_aload_n hx hb d_Model_make_217 rfl (lv_at hl 3 rfl) ?_
      refine cd_get (ci := 4) (C := R_Model) (T := F_Model) (N := 20) (v := .ref (m_ad w 10 10)) hx hb hA i_Model hown hK hW 9 0 rfl rfl rfl 11 (by decide) mw_230 rfl rfl d_Model_make_218 ?_
      refine lv_iload_n hx hb d_Model_make_221 rfl (lv_at hl 4 rfl) ?_
      refine cd_iald hx hb hK hW 10 10 (show (10 : Nat) < 11 from by decide) 0 rfl rfl (vp_in_nI (n := 1) (by decide) (by decide)) d_Model_make_222 ?_
      rw [show ((1 : Int32)).toNatClampNeg = 1 by decide]
      refine lv_iadd hx hb d_Model_make_223 ?_
      refine lv_istore (lv' := [(6, .int ((64 * 1) + ((x_mi w 10 1) + 1))), (4, .long (x_ml w 7 ((f_Model_latest (u_mc w 0 0) 0).toNatClampNeg))), (3, .int (f_Model_latest (u_mc w 0 0) 0)), (2, .int (-1)), (0, .ref (m_ad w 9 0)), (1, .int 1)]) hx hb d_Model_make_224 hl (by decide) rfl (fun ls hl => ?_)
      refine lv_aload_n hx hb d_Model_make_226 rfl (lv_at hl 4 rfl) ?_
      refine cd_get (ci := 4) (C := R_Model) (T := F_Model) (N := 20) (v := .ref (m_ad w 10 6)) hx hb hA i_Model hown hK hW 9 0 rfl rfl rfl 7 (by decide) mw_191 rfl rfl d_Model_make_227 ?_
      refine lv_iload hx hb d_Model_make_230 (lv_at hl 0 rfl) ?_
      refine lv_iconst (v := 1) hx hb d_Model_make_232 (by decide) ?_
      refine cd_zast hx hb hK hW hS 10 6 (show (6 : Nat) < 11 from by decide) 4 rfl rfl (cm_mk (k := 1) (by decide) hma c_9) d_Model_make_233 (cm_ce dA (u_mi (u_mi (u_mc w 0 0) 10 1 ((x_mi w 10 1) + 1)) 6 (((64 * 1) + ((x_mi w 10 1) + 1)).toNatClampNeg) 1)) (by rw [show vp_nar .boolean 1 = 1 by decide]; rfl) (kp_mi dA (u_mi (u_mc w 0 0) 10 1 ((x_mi w 10 1) + 1)) 6 (((64 * 1) + ((x_mi w 10 1) + 1)).toNatClampNeg) 1) (fun H locs hW hS => ?_)
      have hW : cm_Wo D dA b0 (u_mi (u_mi (u_mc w 0 0) 10 1 ((x_mi w 10 1) + 1)) 6 (((64 * 1) + ((x_mi w 10 1) + 1)).toNatClampNeg) 1) H := to_mi hW
      refine lv_aload_n hx hb d_Model_make_234 rfl (lv_at hl 4 rfl) ?_
      refine cd_get (ci := 4) (C := R_Model) (T := F_Model) (N := 20) (v := .ref (m_ad w 10 7)) hx hb hA i_Model hown hK hW 9 0 rfl rfl rfl 8 (by decide) mw_211 rfl rfl d_Model_make_235 ?_
      refine lv_iload hx hb d_Model_make_238 (lv_at hl 0 rfl) ?_
      refine lv_lload hx hb d_Model_make_240 (lv_at hl 1 rfl) ?_
      refine cd_last hx hb hK hW hS 10 7 (show (7 : Nat) < 11 from by decide) 1 rfl rfl (cm_mk (k := 1) (by decide) hma c_9) d_Model_make_242 (cm_ce dA (u_ml (u_mi (u_mi (u_mc w 0 0) 10 1 ((x_mi w 10 1) + 1)) 6 (((64 * 1) + ((x_mi w 10 1) + 1)).toNatClampNeg) 1) 7 (((64 * 1) + ((x_mi w 10 1) + 1)).toNatClampNeg) (x_ml w 7 ((f_Model_latest (u_mc w 0 0) 0).toNatClampNeg)))) rfl (kp_ml dA (u_mi (u_mi (u_mc w 0 0) 10 1 ((x_mi w 10 1) + 1)) 6 (((64 * 1) + ((x_mi w 10 1) + 1)).toNatClampNeg) 1) 7 (((64 * 1) + ((x_mi w 10 1) + 1)).toNatClampNeg) (x_ml w 7 ((f_Model_latest (u_mc w 0 0) 0).toNatClampNeg))) (fun H locs hW hS => ?_)
      have hW : cm_Wo D dA b0 (u_ml (u_mi (u_mi (u_mc w 0 0) 10 1 ((x_mi w 10 1) + 1)) 6 (((64 * 1) + ((x_mi w 10 1) + 1)).toNatClampNeg) 1) 7 (((64 * 1) + ((x_mi w 10 1) + 1)).toNatClampNeg) (x_ml w 7 ((f_Model_latest (u_mc w 0 0) 0).toNatClampNeg))) H := to_ml hW
      refine lv_aload_n hx hb d_Model_make_243 rfl (lv_at hl 4 rfl) ?_
      refine cd_get (ci := 4) (C := R_Model) (T := F_Model) (N := 20) (v := .ref (m_ad w 10 8)) hx hb hA i_Model hown hK hW 9 0 rfl rfl rfl 9 (by decide) mw_206 rfl rfl d_Model_make_244 ?_
      refine lv_iload hx hb d_Model_make_247 (lv_at hl 0 rfl) ?_
      refine lv_iconst (v := 0) hx hb d_Model_make_249 (by decide) ?_
      refine cd_iast hx hb hK hW hS 10 8 (show (8 : Nat) < 11 from by decide) 0 rfl rfl (cm_mk (k := 1) (by decide) hma c_9) d_Model_make_250 (cm_ce dA (u_mi (u_ml (u_mi (u_mi (u_mc w 0 0) 10 1 ((x_mi w 10 1) + 1)) 6 (((64 * 1) + ((x_mi w 10 1) + 1)).toNatClampNeg) 1) 7 (((64 * 1) + ((x_mi w 10 1) + 1)).toNatClampNeg) (x_ml w 7 ((f_Model_latest (u_mc w 0 0) 0).toNatClampNeg))) 8 (((64 * 1) + ((x_mi w 10 1) + 1)).toNatClampNeg) 0)) rfl (kp_mi dA (u_ml (u_mi (u_mi (u_mc w 0 0) 10 1 ((x_mi w 10 1) + 1)) 6 (((64 * 1) + ((x_mi w 10 1) + 1)).toNatClampNeg) 1) 7 (((64 * 1) + ((x_mi w 10 1) + 1)).toNatClampNeg) (x_ml w 7 ((f_Model_latest (u_mc w 0 0) 0).toNatClampNeg))) 8 (((64 * 1) + ((x_mi w 10 1) + 1)).toNatClampNeg) 0) (fun H locs hW hS => ?_)
      have hW : cm_Wo D dA b0 (u_mi (u_ml (u_mi (u_mi (u_mc w 0 0) 10 1 ((x_mi w 10 1) + 1)) 6 (((64 * 1) + ((x_mi w 10 1) + 1)).toNatClampNeg) 1) 7 (((64 * 1) + ((x_mi w 10 1) + 1)).toNatClampNeg) (x_ml w 7 ((f_Model_latest (u_mc w 0 0) 0).toNatClampNeg))) 8 (((64 * 1) + ((x_mi w 10 1) + 1)).toNatClampNeg) 0) H := to_mi hW
      refine lv_aload_n hx hb d_Model_make_251 rfl (lv_at hl 4 rfl) ?_
      refine cd_get (ci := 4) (C := R_Model) (T := F_Model) (N := 20) (v := .ref (m_ad w 10 9)) hx hb hA i_Model hown hK hW 9 0 rfl rfl rfl 10 (by decide) mw_200 rfl rfl d_Model_make_252 ?_
      refine lv_iload hx hb d_Model_make_255 (lv_at hl 0 rfl) ?_
      refine lv_iload_n hx hb d_Model_make_257 rfl (lv_at hl 5 rfl) ?_
      refine lv_iconst (v := 1) hx hb d_Model_make_258 (by decide) ?_
      refine lv_icmp_eq (tgt := 267) hx hb d_Model_make_259 (by decide) (fun _ => ?_) (fun c_13 => absurd (by decide) c_13)
      refine lv_iload_n hx hb d_Model_make_267 rfl (lv_at hl 2 rfl) ?_
      refine lv_goto (tgt := 272) hx hb d_Model_make_268 (by decide) ?_
      refine cd_iast hx hb hK hW hS 10 9 (show (9 : Nat) < 11 from by decide) 0 rfl rfl (cm_mk (k := 1) (by decide) hma c_9) d_Model_make_272 (cm_ce dA (u_mi (u_mi (u_ml (u_mi (u_mi (u_mc w 0 0) 10 1 ((x_mi w 10 1) + 1)) 6 (((64 * 1) + ((x_mi w 10 1) + 1)).toNatClampNeg) 1) 7 (((64 * 1) + ((x_mi w 10 1) + 1)).toNatClampNeg) (x_ml w 7 ((f_Model_latest (u_mc w 0 0) 0).toNatClampNeg))) 8 (((64 * 1) + ((x_mi w 10 1) + 1)).toNatClampNeg) 0) 9 (((64 * 1) + ((x_mi w 10 1) + 1)).toNatClampNeg) (f_Model_latest (u_mc w 0 0) 0))) rfl (kp_mi dA (u_mi (u_ml (u_mi (u_mi (u_mc w 0 0) 10 1 ((x_mi w 10 1) + 1)) 6 (((64 * 1) + ((x_mi w 10 1) + 1)).toNatClampNeg) 1) 7 (((64 * 1) + ((x_mi w 10 1) + 1)).toNatClampNeg) (x_ml w 7 ((f_Model_latest (u_mc w 0 0) 0).toNatClampNeg))) 8 (((64 * 1) + ((x_mi w 10 1) + 1)).toNatClampNeg) 0) 9 (((64 * 1) + ((x_mi w 10 1) + 1)).toNatClampNeg) (f_Model_latest (u_mc w 0 0) 0)) (fun H locs hW hS => ?_)
      have hW : cm_Wo D dA b0 (u_mi (u_mi (u_ml (u_mi (u_mi (u_mc w 0 0) 10 1 ((x_mi w 10 1) + 1)) 6 (((64 * 1) + ((x_mi w 10 1) + 1)).toNatClampNeg) 1) 7 (((64 * 1) + ((x_mi w 10 1) + 1)).toNatClampNeg) (x_ml w 7 ((f_Model_latest (u_mc w 0 0) 0).toNatClampNeg))) 8 (((64 * 1) + ((x_mi w 10 1) + 1)).toNatClampNeg) 0) 9 (((64 * 1) + ((x_mi w 10 1) + 1)).toNatClampNeg) (f_Model_latest (u_mc w 0 0) 0)) H := to_mi hW
      refine lv_aload_n hx hb d_Model_make_273 rfl (lv_at hl 4 rfl) ?_
      refine lv_dup hx hb d_Model_make_274 rfl ?_
      refine cd_get (ci := 4) (C := R_Model) (T := F_Model) (N := 20) (v := .int (x_mc w 7)) hx hb hA i_Model hown hK hW 9 0 rfl rfl rfl 18 (by decide) mw_189 rfl rfl d_Model_make_275 ?_
      refine lv_iconst (v := 1) hx hb d_Model_make_278 (by decide) ?_
      refine lv_iadd hx hb d_Model_make_279 ?_
      refine cd_put (ci := 4) (C := R_Model) (T := F_Model) (N := 20) (v := .int ((x_mc w 7) + 1)) hx hb hA i_Model t_Model t_Model_ok n_Model hown hK hW hS 9 0 rfl rfl rfl 18 (by decide) mw_189 rfl rfl rfl rfl (Nat.le_of_ble_eq_true rfl) d_Model_make_280 (cm_ce dA (u_mc (u_mi (u_mi (u_ml (u_mi (u_mi (u_mc w 0 0) 10 1 ((x_mi w 10 1) + 1)) 6 (((64 * 1) + ((x_mi w 10 1) + 1)).toNatClampNeg) 1) 7 (((64 * 1) + ((x_mi w 10 1) + 1)).toNatClampNeg) (x_ml w 7 ((f_Model_latest (u_mc w 0 0) 0).toNatClampNeg))) 8 (((64 * 1) + ((x_mi w 10 1) + 1)).toNatClampNeg) 0) 9 (((64 * 1) + ((x_mi w 10 1) + 1)).toNatClampNeg) (f_Model_latest (u_mc w 0 0) 0)) 7 ((x_mc w 7) + 1))) rfl (kp_mc dA (u_mi (u_mi (u_ml (u_mi (u_mi (u_mc w 0 0) 10 1 ((x_mi w 10 1) + 1)) 6 (((64 * 1) + ((x_mi w 10 1) + 1)).toNatClampNeg) 1) 7 (((64 * 1) + ((x_mi w 10 1) + 1)).toNatClampNeg) (x_ml w 7 ((f_Model_latest (u_mc w 0 0) 0).toNatClampNeg))) 8 (((64 * 1) + ((x_mi w 10 1) + 1)).toNatClampNeg) 0) 9 (((64 * 1) + ((x_mi w 10 1) + 1)).toNatClampNeg) (f_Model_latest (u_mc w 0 0) 0)) 7 ((x_mc w 7) + 1)) (fun H locs hW hS => ?_)
      have hW : cm_Wo D dA b0 (u_mc (u_mi (u_mi (u_ml (u_mi (u_mi (u_mc w 0 0) 10 1 ((x_mi w 10 1) + 1)) 6 (((64 * 1) + ((x_mi w 10 1) + 1)).toNatClampNeg) 1) 7 (((64 * 1) + ((x_mi w 10 1) + 1)).toNatClampNeg) (x_ml w 7 ((f_Model_latest (u_mc w 0 0) 0).toNatClampNeg))) 8 (((64 * 1) + ((x_mi w 10 1) + 1)).toNatClampNeg) 0) 9 (((64 * 1) + ((x_mi w 10 1) + 1)).toNatClampNeg) (f_Model_latest (u_mc w 0 0) 0)) 7 ((x_mc w 7) + 1)) H := to_mc hW
      refine lv_aload_n hx hb d_Model_make_283 rfl (lv_at hl 4 rfl) ?_
      refine lv_dup hx hb d_Model_make_284 rfl ?_
      refine cd_get (ci := 4) (C := R_Model) (T := F_Model) (N := 20) (v := .int (x_mc w 8)) hx hb hA i_Model hown hK hW 9 0 rfl rfl rfl 19 (by decide) mw_182 rfl rfl d_Model_make_285 ?_
      refine lv_iconst (v := 1) hx hb d_Model_make_288 (by decide) ?_
      refine lv_iadd hx hb d_Model_make_289 ?_
      refine cd_put (ci := 4) (C := R_Model) (T := F_Model) (N := 20) (v := .int ((x_mc w 8) + 1)) hx hb hA i_Model t_Model t_Model_ok n_Model hown hK hW hS 9 0 rfl rfl rfl 19 (by decide) mw_182 rfl rfl rfl rfl (Nat.le_of_ble_eq_true rfl) d_Model_make_290 (cm_ce dA (u_mc (u_mc (u_mi (u_mi (u_ml (u_mi (u_mi (u_mc w 0 0) 10 1 ((x_mi w 10 1) + 1)) 6 (((64 * 1) + ((x_mi w 10 1) + 1)).toNatClampNeg) 1) 7 (((64 * 1) + ((x_mi w 10 1) + 1)).toNatClampNeg) (x_ml w 7 ((f_Model_latest (u_mc w 0 0) 0).toNatClampNeg))) 8 (((64 * 1) + ((x_mi w 10 1) + 1)).toNatClampNeg) 0) 9 (((64 * 1) + ((x_mi w 10 1) + 1)).toNatClampNeg) (f_Model_latest (u_mc w 0 0) 0)) 7 ((x_mc w 7) + 1)) 8 ((x_mc w 8) + 1))) rfl (kp_mc dA (u_mc (u_mi (u_mi (u_ml (u_mi (u_mi (u_mc w 0 0) 10 1 ((x_mi w 10 1) + 1)) 6 (((64 * 1) + ((x_mi w 10 1) + 1)).toNatClampNeg) 1) 7 (((64 * 1) + ((x_mi w 10 1) + 1)).toNatClampNeg) (x_ml w 7 ((f_Model_latest (u_mc w 0 0) 0).toNatClampNeg))) 8 (((64 * 1) + ((x_mi w 10 1) + 1)).toNatClampNeg) 0) 9 (((64 * 1) + ((x_mi w 10 1) + 1)).toNatClampNeg) (f_Model_latest (u_mc w 0 0) 0)) 7 ((x_mc w 7) + 1)) 8 ((x_mc w 8) + 1)) (fun H locs hW hS => ?_)
      have hW : cm_Wo D dA b0 (u_mc (u_mc (u_mi (u_mi (u_ml (u_mi (u_mi (u_mc w 0 0) 10 1 ((x_mi w 10 1) + 1)) 6 (((64 * 1) + ((x_mi w 10 1) + 1)).toNatClampNeg) 1) 7 (((64 * 1) + ((x_mi w 10 1) + 1)).toNatClampNeg) (x_ml w 7 ((f_Model_latest (u_mc w 0 0) 0).toNatClampNeg))) 8 (((64 * 1) + ((x_mi w 10 1) + 1)).toNatClampNeg) 0) 9 (((64 * 1) + ((x_mi w 10 1) + 1)).toNatClampNeg) (f_Model_latest (u_mc w 0 0) 0)) 7 ((x_mc w 7) + 1)) 8 ((x_mc w 8) + 1)) H := to_mc hW
      refine lv_iload hx hb d_Model_make_293 (lv_at hl 0 rfl) ?_
      have hf : f_Model_make1 w = (((64 * 1) + ((x_mi w 10 1) + 1)), (u_mc (u_mc (u_mi (u_mi (u_ml (u_mi (u_mi (u_mc w 0 0) 10 1 ((x_mi w 10 1) + 1)) 6 (((64 * 1) + ((x_mi w 10 1) + 1)).toNatClampNeg) 1) 7 (((64 * 1) + ((x_mi w 10 1) + 1)).toNatClampNeg) (x_ml w 7 ((f_Model_latest (u_mc w 0 0) 0).toNatClampNeg))) 8 (((64 * 1) + ((x_mi w 10 1) + 1)).toNatClampNeg) 0) 9 (((64 * 1) + ((x_mi w 10 1) + 1)).toNatClampNeg) (f_Model_latest (u_mc w 0 0) 0)) 7 ((x_mc w 7) + 1)) 8 ((x_mc w 8) + 1))) := by
        simp only [f_Model_make1, if_pos c_8, if_neg c_9]
      exact cd_iret hx hb hr hlocks hW hS d_Model_make_295 ⟨by rw [hf], by rw [hf], by rw [hf], by rw [hf]⟩ (Nat.le_of_ble_eq_true rfl) (Nat.le_of_ble_eq_true rfl)
    · skip
      refine lv_aload_n hx hb d_Model_make_119 rfl (lv_at hl 2 rfl) ?_
      refine lv_bipush (v := (-4)) hx hb d_Model_make_120 (by decide) ?_
      refine cm_cV (w0 := (f_Model_refuse (u_mc w 0 0) (-4)).2) (x0 := .int ((f_Model_refuse (u_mc w 0 0) (-4)).1)) (rest := []) (n := 1) ⟨hx, hb, hml, hown, hA⟩ (cd_GA mw_173) hE hb0 hW hS 9 0 rfl rfl rfl (c_Model_refuse l D dA b0 (u_mc w 0 0) (-4)) mw_177 mw_175 mw_176 mw_174 (by decide +kernel) rfl rfl ⟨by decide, by decide⟩ rfl hl.1 rfl (Nat.le_of_ble_eq_true rfl) d_Model_make_122 ⟨by decide, by decide⟩ (fun H locs hW hS => ?_)
      have hf : f_Model_make1 w = ((f_Model_refuse (u_mc w 0 0) (-4)).1, (f_Model_refuse (u_mc w 0 0) (-4)).2) := by
        simp only [f_Model_make1, if_pos c_8, if_pos c_9]
      exact cd_iret hx hb hr hlocks hW hS d_Model_make_125 ⟨by rw [hf], by rw [hf], by rw [hf], by rw [hf]⟩ (Nat.le_of_ble_eq_true rfl) (Nat.le_of_ble_eq_true rfl)
  · skip
    refine lv_aload_n hx hb d_Model_make_101 rfl (lv_at hl 2 rfl) ?_
    refine lv_bipush (v := (-3)) hx hb d_Model_make_102 (by decide) ?_
    refine cm_cV (w0 := (f_Model_refuse (u_mc w 0 0) (-3)).2) (x0 := .int ((f_Model_refuse (u_mc w 0 0) (-3)).1)) (rest := []) (n := 1) ⟨hx, hb, hml, hown, hA⟩ (cd_GA mw_173) hE hb0 hW hS 9 0 rfl rfl rfl (c_Model_refuse l D dA b0 (u_mc w 0 0) (-3)) mw_177 mw_175 mw_176 mw_174 (by decide +kernel) rfl rfl ⟨by decide, by decide⟩ rfl hl.1 rfl (Nat.le_of_ble_eq_true rfl) d_Model_make_104 ⟨by decide, by decide⟩ (fun H locs hW hS => ?_)
    have hf : f_Model_make1 w = ((f_Model_refuse (u_mc w 0 0) (-3)).1, (f_Model_refuse (u_mc w 0 0) (-3)).2) := by
      simp only [f_Model_make1, if_neg c_8]
    exact cd_iret hx hb hr hlocks hW hS d_Model_make_107 ⟨by rw [hf], by rw [hf], by rw [hf], by rw [hf]⟩ (Nat.le_of_ble_eq_true rfl) (Nat.le_of_ble_eq_true rfl)

def f_Model_make2 (w : cm_W)  : Int32 × cm_W := if (x_mi w 3 1) = 0 then ((f_Model_refuse (u_mc w 0 0) (-3)).1, (f_Model_refuse (u_mc w 0 0) (-3)).2) else if (x_mi w 10 2) = 20 then ((f_Model_refuse (u_mc w 0 0) (-4)).1, (f_Model_refuse (u_mc w 0 0) (-4)).2) else (((64 * 2) + ((x_mi w 10 2) + 1)), (u_mc (u_mc (u_mi (u_mi (u_ml (u_mi (u_mi (u_mi (u_mc w 0 0) 3 1 0) 10 2 ((x_mi w 10 2) + 1)) 6 (((64 * 2) + ((x_mi w 10 2) + 1)).toNatClampNeg) 1) 7 (((64 * 2) + ((x_mi w 10 2) + 1)).toNatClampNeg) (f_Model_stateOfBits (u_mc w 0 0) (x_mi w 3 1).toNatClampNeg)) 8 (((64 * 2) + ((x_mi w 10 2) + 1)).toNatClampNeg) 0) 9 (((64 * 2) + ((x_mi w 10 2) + 1)).toNatClampNeg) (-1)) 7 ((x_mc w 7) + 1)) 8 ((x_mc w 8) + 1)))
set_option maxHeartbeats 4000000 in
set_option maxRecDepth 100000 in
theorem c_Model_make2 (l : Launch) (D : va_G) (dA : Nat → ClassId) (b0 : Nat) (w : cm_W) (hco : ∀ t, t < 3 → ∃ c, c ≤ 200 ∧ x_mi w 3 t = nI c) (hma : ∀ k, k < 6 → ∃ c, c ≤ 20 ∧ x_mi w 10 k = nI c) : cd_Ct l D (cx_tys dA) b0 y_Model_make (.code y_Model_make b_Model_make 7 (some .int) :: cd_WA) { frames := 1, cells := 0, slots := 0, locals := 25 } [.ref (m_ad w 9 0), .int 2] (cm_dm w) (m_ad w) (cm_ce dA w) (cm_R dA (some (.int (f_Model_make2 w).1)) (f_Model_make2 w).2) 0 0 := by
  refine cd_Ct.of b_Model_make 7 (some .int) (by decide) rfl ?_
  intro p e s m below meth c hx hb hr hml hown hlocks hnm hA hE hb0 hW hS ls hl
  have hK := hE.1
  have hl : lv_has ls 7 [(0, .ref (m_ad w 9 0)), (1, .int 2)] := hl
  refine lv_aload_n hx hb d_Model_make_0 rfl (lv_at hl 0 rfl) ?_
  refine lv_iconst (v := 0) hx hb d_Model_make_1 (by decide) ?_
  refine cd_put (ci := 4) (C := R_Model) (T := F_Model) (N := 20) (v := .int 0) hx hb hA i_Model t_Model t_Model_ok n_Model hown hK hW hS 9 0 rfl rfl rfl 0 (by decide) mw_172 rfl rfl rfl rfl (Nat.le_of_ble_eq_true rfl) d_Model_make_2 (cm_ce dA (u_mc w 0 0)) rfl (kp_mc dA w 0 0) (fun H locs hW hS => ?_)
  have hW : cm_Wo D dA b0 (u_mc w 0 0) H := to_mc hW
  refine lv_iload_n hx hb d_Model_make_5 rfl (lv_at hl 1 rfl) ?_
  refine lv_if_lt (tgt := 14) hx hb d_Model_make_6 (by decide) (fun c_1 => absurd c_1 (by decide)) (fun _ => ?_)
  refine lv_iload_n hx hb d_Model_make_9 rfl (lv_at hl 1 rfl) ?_
  refine lv_iconst (v := 5) hx hb d_Model_make_10 (by decide) ?_
  refine lv_icmp_le (tgt := 20) hx hb d_Model_make_11 (by decide) (fun _ => ?_) (fun c_2 => absurd (by decide) c_2)
  refine lv_iload_n hx hb d_Model_make_20 rfl (lv_at hl 1 rfl) ?_
  refine lv_if_ne (tgt := 28) hx hb d_Model_make_21 (by decide) (fun _ => ?_) (fun c_3 => absurd c_3 (by decide))
  refine lv_iload_n hx hb d_Model_make_28 rfl (lv_at hl 1 rfl) ?_
  refine lv_iconst (v := 2) hx hb d_Model_make_29 (by decide) ?_
  refine lv_icmp_ne (tgt := 37) hx hb d_Model_make_30 (by decide) (fun c_4 => absurd (by decide) c_4) (fun _ => ?_)
  refine lv_iconst (v := 1) hx hb d_Model_make_33 (by decide) ?_
  refine lv_goto (tgt := 47) hx hb d_Model_make_34 (by decide) ?_
  refine lv_istore_n (lv' := [(2, .int 1), (0, .ref (m_ad w 9 0)), (1, .int 2)]) hx hb d_Model_make_47 rfl hl (by decide) rfl (fun ls hl => ?_)
  refine lv_iload_n hx hb d_Model_make_48 rfl (lv_at hl 2 rfl) ?_
  refine lv_iconst (v := 1) hx hb d_Model_make_49 (by decide) ?_
  refine lv_icmp_ne (tgt := 61) hx hb d_Model_make_50 (by decide) (fun _ => ?_) (fun c_5 => absurd c_5 (by decide))
  refine lv_iload_n hx hb d_Model_make_61 rfl (lv_at hl 2 rfl) ?_
  refine lv_iconst (v := 3) hx hb d_Model_make_62 (by decide) ?_
  refine lv_icmp_eq (tgt := 71) hx hb d_Model_make_63 (by decide) (fun c_6 => absurd c_6 (by decide)) (fun _ => ?_)
  refine lv_iload_n hx hb d_Model_make_66 rfl (lv_at hl 2 rfl) ?_
  refine lv_iconst (v := 5) hx hb d_Model_make_67 (by decide) ?_
  refine lv_icmp_ne (tgt := 79) hx hb d_Model_make_68 (by decide) (fun _ => ?_) (fun c_7 => absurd c_7 (by decide))
  refine lv_iconst (v := (-1)) hx hb d_Model_make_79 (by decide) ?_
  refine lv_istore_n (lv' := [(3, .int (-1)), (2, .int 1), (0, .ref (m_ad w 9 0)), (1, .int 2)]) hx hb d_Model_make_80 rfl hl (by decide) rfl (fun ls hl => ?_)
  refine lv_iload_n hx hb d_Model_make_81 rfl (lv_at hl 1 rfl) ?_
  refine lv_if_lt (tgt := 97) hx hb d_Model_make_82 (by decide) (fun c_8 => absurd c_8 (by decide)) (fun _ => ?_)
  refine lv_aload_n hx hb d_Model_make_85 rfl (lv_at hl 2 rfl) ?_
  refine cd_get (ci := 4) (C := R_Model) (T := F_Model) (N := 20) (v := .ref (m_ad w 10 3)) hx hb hA i_Model hown hK hW 9 0 rfl rfl rfl 4 (by decide) mw_190 rfl rfl d_Model_make_86 ?_
  refine lv_iload_n hx hb d_Model_make_89 rfl (lv_at hl 1 rfl) ?_
  refine cd_iald hx hb hK hW 10 3 (show (3 : Nat) < 11 from by decide) 0 rfl rfl (vp_in_nI (n := 1) (by decide) (by decide)) d_Model_make_90 ?_
  rw [show ((1 : Int32)).toNatClampNeg = 1 by decide]
  refine lv_if_ne (tgt := 108) hx hb d_Model_make_91 (by decide) (fun c_9 => ?_) (fun c_9 => ?_)
  · skip
    refine lv_aload_n hx hb d_Model_make_108 rfl (lv_at hl 2 rfl) ?_
    refine cd_get (ci := 4) (C := R_Model) (T := F_Model) (N := 20) (v := .ref (m_ad w 10 10)) hx hb hA i_Model hown hK hW 9 0 rfl rfl rfl 11 (by decide) mw_230 rfl rfl d_Model_make_109 ?_
    refine lv_iload_n hx hb d_Model_make_112 rfl (lv_at hl 3 rfl) ?_
    refine cd_iald hx hb hK hW 10 10 (show (10 : Nat) < 11 from by decide) 0 rfl rfl (vp_in_nI (n := 2) (by decide) (by decide)) d_Model_make_113 ?_
    rw [show ((2 : Int32)).toNatClampNeg = 2 by decide]
    refine lv_bipush (v := 20) hx hb d_Model_make_114 (by decide) ?_
    refine lv_icmp_ne (tgt := 126) hx hb d_Model_make_116 (by decide) (fun c_10 => ?_) (fun c_10 => ?_)
    · skip
      refine lv_iload_n hx hb d_Model_make_126 rfl (lv_at hl 3 rfl) ?_
      refine lv_if_ne (tgt := 137) hx hb d_Model_make_127 (by decide) (fun _ => ?_) (fun c_11 => absurd c_11 (by decide))
      refine lv_iload_n hx hb d_Model_make_137 rfl (lv_at hl 3 rfl) ?_
      refine lv_iconst (v := 1) hx hb d_Model_make_138 (by decide) ?_
      refine lv_icmp_ne (tgt := 151) hx hb d_Model_make_139 (by decide) (fun _ => ?_) (fun c_12 => absurd c_12 (by decide))
      refine lv_iload_n hx hb d_Model_make_151 rfl (lv_at hl 3 rfl) ?_
      refine lv_iconst (v := 2) hx hb d_Model_make_152 (by decide) ?_
      refine lv_icmp_ne (tgt := 163) hx hb d_Model_make_153 (by decide) (fun c_13 => absurd (by decide) c_13) (fun _ => ?_)
      refine lv_aload_n hx hb d_Model_make_156 rfl (lv_at hl 2 rfl) ?_
      refine cm_cV (w0 := (u_mc w 0 0)) (x0 := .long (f_Model_stateOfBits (u_mc w 0 0) (x_mi w 3 1).toNatClampNeg)) (rest := []) (n := 0) ⟨hx, hb, hml, hown, hA⟩ (cd_GA mw_239) hE hb0 hW hS 9 0 rfl rfl rfl (c_Model_stateOfBits l D dA b0 (u_mc w 0 0) (x_mi w 3 1).toNatClampNeg (cm_cl (hco 1 (by decide))).1 (cm_cl (hco 1 (by decide))).2) mw_242 mw_240 mw_241 mw_174 (by decide +kernel) rfl rfl ⟨by decide, by decide⟩ rfl hl.1 rfl (Nat.le_of_ble_eq_true rfl) d_Model_make_157 ⟨by decide, by decide⟩ (fun H locs hW hS => ?_)
      refine lv_goto (tgt := 190) hx hb d_Model_make_160 (by decide) ?_
      refine lv_lstore (lv' := [(4, .long (f_Model_stateOfBits (u_mc w 0 0) (x_mi w 3 1).toNatClampNeg)), (3, .int (-1)), (2, .int 1), (0, .ref (m_ad w 9 0)), (1, .int 2)]) hx hb d_Model_make_190 hl (by decide) rfl (fun ls hl => ?_)
      refine lv_iload_n hx hb d_Model_make_192 rfl (lv_at hl 2 rfl) ?_
      refine lv_if_lt (tgt := 203) hx hb d_Model_make_193 (by decide) (fun c_14 => absurd c_14 (by decide)) (fun _ => ?_)
      refine lv_aload_n hx hb d_Model_make_196 rfl (lv_at hl 3 rfl) ?_
      refine cd_get (ci := 4) (C := R_Model) (T := F_Model) (N := 20) (v := .ref (m_ad w 10 3)) hx hb hA i_Model hown hK hW 9 0 rfl rfl rfl 4 (by decide) mw_190 rfl rfl d_Model_make_197 ?_
      refine lv_iload_n hx hb d_Model_make_200 rfl (lv_at hl 2 rfl) ?_
      refine lv_iconst (v := 0) hx hb d_Model_make_201 (by decide) ?_
      refine cd_iast hx hb hK hW hS 10 3 (show (3 : Nat) < 11 from by decide) 0 rfl rfl (vp_in_nI (n := 1) (by decide) (by decide)) d_Model_make_202 (cm_ce dA (u_mi (u_mc w 0 0) 3 1 0)) (by rw [show ((1 : Int32)).toNatClampNeg = 1 by decide]; rfl) (kp_mi dA (u_mc w 0 0) 3 1 0) (fun H locs hW hS => ?_)
      have hW : cm_Wo D dA b0 (u_mi (u_mc w 0 0) 3 1 0) H := to_mi hW
      refine lv_aload_n hx hb d_Model_make_203 rfl (lv_at hl 3 rfl) ?_
      refine cd_get (ci := 4) (C := R_Model) (T := F_Model) (N := 20) (v := .ref (m_ad w 10 10)) hx hb hA i_Model hown hK hW 9 0 rfl rfl rfl 11 (by decide) mw_230 rfl rfl d_Model_make_204 ?_
      refine lv_iload_n hx hb d_Model_make_207 rfl (lv_at hl 4 rfl) ?_
      refine lv_dup2_11 hx hb d_Model_make_208 rfl rfl ?_
      refine cd_iald hx hb hK hW 10 10 (show (10 : Nat) < 11 from by decide) 0 rfl rfl (vp_in_nI (n := 2) (by decide) (by decide)) d_Model_make_209 ?_
      rw [show ((2 : Int32)).toNatClampNeg = 2 by decide]
      refine lv_iconst (v := 1) hx hb d_Model_make_210 (by decide) ?_
      refine lv_iadd hx hb d_Model_make_211 ?_
      refine cd_iast hx hb hK hW hS 10 10 (show (10 : Nat) < 11 from by decide) 0 rfl rfl (vp_in_nI (n := 2) (by decide) (by decide)) d_Model_make_212 (cm_ce dA (u_mi (u_mi (u_mc w 0 0) 3 1 0) 10 2 ((x_mi w 10 2) + 1))) (by rw [show ((2 : Int32)).toNatClampNeg = 2 by decide]; rfl) (kp_mi dA (u_mi (u_mc w 0 0) 3 1 0) 10 2 ((x_mi w 10 2) + 1)) (fun H locs hW hS => ?_)
      have hW : cm_Wo D dA b0 (u_mi (u_mi (u_mc w 0 0) 3 1 0) 10 2 ((x_mi w 10 2) + 1)) H := to_mi hW
      refine lv_bipush (v := 64) hx hb d_Model_make_213 (by decide) ?_
      refine lv_iload_n hx hb d_Model_make_215 rfl (lv_at hl 4 rfl) ?_
      refine lv_imul hx hb d_Model_make_216 ?_
      refine lv_aload_n hx hb d_Model_make_217 rfl (lv_at hl 3 rfl) ?_
      refine cd_get (ci := 4) (C := R_Model) (T := F_Model) (N := 20) (v := .ref (m_ad w 10 10)) hx hb hA i_Model hown hK hW 9 0 rfl rfl rfl 11 (by decide) mw_230 rfl rfl d_Model_make_218 ?_
      refine lv_iload_n hx hb d_Model_make_221 rfl (lv_at hl 4 rfl) ?_
      refine cd_iald hx hb hK hW 10 10 (show (10 : Nat) < 11 from by decide) 0 rfl rfl (vp_in_nI (n := 2) (by decide) (by decide)) d_Model_make_222 ?_
      rw [show ((2 : Int32)).toNatClampNeg = 2 by decide]
      refine lv_iadd hx hb d_Model_make_223 ?_
      refine lv_istore (lv' := [(6, .int ((64 * 2) + ((x_mi w 10 2) + 1))), (4, .long (f_Model_stateOfBits (u_mc w 0 0) (x_mi w 3 1).toNatClampNeg)), (3, .int (-1)), (2, .int 1), (0, .ref (m_ad w 9 0)), (1, .int 2)]) hx hb d_Model_make_224 hl (by decide) rfl (fun ls hl => ?_)
      refine lv_aload_n hx hb d_Model_make_226 rfl (lv_at hl 4 rfl) ?_
      refine cd_get (ci := 4) (C := R_Model) (T := F_Model) (N := 20) (v := .ref (m_ad w 10 6)) hx hb hA i_Model hown hK hW 9 0 rfl rfl rfl 7 (by decide) mw_191 rfl rfl d_Model_make_227 ?_
      refine lv_iload hx hb d_Model_make_230 (lv_at hl 0 rfl) ?_
      refine lv_iconst (v := 1) hx hb d_Model_make_232 (by decide) ?_
      refine cd_zast hx hb hK hW hS 10 6 (show (6 : Nat) < 11 from by decide) 4 rfl rfl (cm_mk (k := 2) (by decide) hma c_10) d_Model_make_233 (cm_ce dA (u_mi (u_mi (u_mi (u_mc w 0 0) 3 1 0) 10 2 ((x_mi w 10 2) + 1)) 6 (((64 * 2) + ((x_mi w 10 2) + 1)).toNatClampNeg) 1)) (by rw [show vp_nar .boolean 1 = 1 by decide]; rfl) (kp_mi dA (u_mi (u_mi (u_mc w 0 0) 3 1 0) 10 2 ((x_mi w 10 2) + 1)) 6 (((64 * 2) + ((x_mi w 10 2) + 1)).toNatClampNeg) 1) (fun H locs hW hS => ?_)
      have hW : cm_Wo D dA b0 (u_mi (u_mi (u_mi (u_mc w 0 0) 3 1 0) 10 2 ((x_mi w 10 2) + 1)) 6 (((64 * 2) + ((x_mi w 10 2) + 1)).toNatClampNeg) 1) H := to_mi hW
      refine lv_aload_n hx hb d_Model_make_234 rfl (lv_at hl 4 rfl) ?_
      refine cd_get (ci := 4) (C := R_Model) (T := F_Model) (N := 20) (v := .ref (m_ad w 10 7)) hx hb hA i_Model hown hK hW 9 0 rfl rfl rfl 8 (by decide) mw_211 rfl rfl d_Model_make_235 ?_
      refine lv_iload hx hb d_Model_make_238 (lv_at hl 0 rfl) ?_
      refine lv_lload hx hb d_Model_make_240 (lv_at hl 1 rfl) ?_
      refine cd_last hx hb hK hW hS 10 7 (show (7 : Nat) < 11 from by decide) 1 rfl rfl (cm_mk (k := 2) (by decide) hma c_10) d_Model_make_242 (cm_ce dA (u_ml (u_mi (u_mi (u_mi (u_mc w 0 0) 3 1 0) 10 2 ((x_mi w 10 2) + 1)) 6 (((64 * 2) + ((x_mi w 10 2) + 1)).toNatClampNeg) 1) 7 (((64 * 2) + ((x_mi w 10 2) + 1)).toNatClampNeg) (f_Model_stateOfBits (u_mc w 0 0) (x_mi w 3 1).toNatClampNeg))) rfl (kp_ml dA (u_mi (u_mi (u_mi (u_mc w 0 0) 3 1 0) 10 2 ((x_mi w 10 2) + 1)) 6 (((64 * 2) + ((x_mi w 10 2) + 1)).toNatClampNeg) 1) 7 (((64 * 2) + ((x_mi w 10 2) + 1)).toNatClampNeg) (f_Model_stateOfBits (u_mc w 0 0) (x_mi w 3 1).toNatClampNeg)) (fun H locs hW hS => ?_)
      have hW : cm_Wo D dA b0 (u_ml (u_mi (u_mi (u_mi (u_mc w 0 0) 3 1 0) 10 2 ((x_mi w 10 2) + 1)) 6 (((64 * 2) + ((x_mi w 10 2) + 1)).toNatClampNeg) 1) 7 (((64 * 2) + ((x_mi w 10 2) + 1)).toNatClampNeg) (f_Model_stateOfBits (u_mc w 0 0) (x_mi w 3 1).toNatClampNeg)) H := to_ml hW
      refine lv_aload_n hx hb d_Model_make_243 rfl (lv_at hl 4 rfl) ?_
      refine cd_get (ci := 4) (C := R_Model) (T := F_Model) (N := 20) (v := .ref (m_ad w 10 8)) hx hb hA i_Model hown hK hW 9 0 rfl rfl rfl 9 (by decide) mw_206 rfl rfl d_Model_make_244 ?_
      refine lv_iload hx hb d_Model_make_247 (lv_at hl 0 rfl) ?_
      refine lv_iconst (v := 0) hx hb d_Model_make_249 (by decide) ?_
      refine cd_iast hx hb hK hW hS 10 8 (show (8 : Nat) < 11 from by decide) 0 rfl rfl (cm_mk (k := 2) (by decide) hma c_10) d_Model_make_250 (cm_ce dA (u_mi (u_ml (u_mi (u_mi (u_mi (u_mc w 0 0) 3 1 0) 10 2 ((x_mi w 10 2) + 1)) 6 (((64 * 2) + ((x_mi w 10 2) + 1)).toNatClampNeg) 1) 7 (((64 * 2) + ((x_mi w 10 2) + 1)).toNatClampNeg) (f_Model_stateOfBits (u_mc w 0 0) (x_mi w 3 1).toNatClampNeg)) 8 (((64 * 2) + ((x_mi w 10 2) + 1)).toNatClampNeg) 0)) rfl (kp_mi dA (u_ml (u_mi (u_mi (u_mi (u_mc w 0 0) 3 1 0) 10 2 ((x_mi w 10 2) + 1)) 6 (((64 * 2) + ((x_mi w 10 2) + 1)).toNatClampNeg) 1) 7 (((64 * 2) + ((x_mi w 10 2) + 1)).toNatClampNeg) (f_Model_stateOfBits (u_mc w 0 0) (x_mi w 3 1).toNatClampNeg)) 8 (((64 * 2) + ((x_mi w 10 2) + 1)).toNatClampNeg) 0) (fun H locs hW hS => ?_)
      have hW : cm_Wo D dA b0 (u_mi (u_ml (u_mi (u_mi (u_mi (u_mc w 0 0) 3 1 0) 10 2 ((x_mi w 10 2) + 1)) 6 (((64 * 2) + ((x_mi w 10 2) + 1)).toNatClampNeg) 1) 7 (((64 * 2) + ((x_mi w 10 2) + 1)).toNatClampNeg) (f_Model_stateOfBits (u_mc w 0 0) (x_mi w 3 1).toNatClampNeg)) 8 (((64 * 2) + ((x_mi w 10 2) + 1)).toNatClampNeg) 0) H := to_mi hW
      refine lv_aload_n hx hb d_Model_make_251 rfl (lv_at hl 4 rfl) ?_
      refine cd_get (ci := 4) (C := R_Model) (T := F_Model) (N := 20) (v := .ref (m_ad w 10 9)) hx hb hA i_Model hown hK hW 9 0 rfl rfl rfl 10 (by decide) mw_200 rfl rfl d_Model_make_252 ?_
      refine lv_iload hx hb d_Model_make_255 (lv_at hl 0 rfl) ?_
      refine lv_iload_n hx hb d_Model_make_257 rfl (lv_at hl 5 rfl) ?_
      refine lv_iconst (v := 1) hx hb d_Model_make_258 (by decide) ?_
      refine lv_icmp_eq (tgt := 267) hx hb d_Model_make_259 (by decide) (fun c_15 => absurd c_15 (by decide)) (fun _ => ?_)
      refine lv_iload_n hx hb d_Model_make_262 rfl (lv_at hl 5 rfl) ?_
      refine lv_iconst (v := 3) hx hb d_Model_make_263 (by decide) ?_
      refine lv_icmp_ne (tgt := 271) hx hb d_Model_make_264 (by decide) (fun _ => ?_) (fun c_16 => absurd c_16 (by decide))
      refine lv_iconst (v := (-1)) hx hb d_Model_make_271 (by decide) ?_
      refine cd_iast hx hb hK hW hS 10 9 (show (9 : Nat) < 11 from by decide) 0 rfl rfl (cm_mk (k := 2) (by decide) hma c_10) d_Model_make_272 (cm_ce dA (u_mi (u_mi (u_ml (u_mi (u_mi (u_mi (u_mc w 0 0) 3 1 0) 10 2 ((x_mi w 10 2) + 1)) 6 (((64 * 2) + ((x_mi w 10 2) + 1)).toNatClampNeg) 1) 7 (((64 * 2) + ((x_mi w 10 2) + 1)).toNatClampNeg) (f_Model_stateOfBits (u_mc w 0 0) (x_mi w 3 1).toNatClampNeg)) 8 (((64 * 2) + ((x_mi w 10 2) + 1)).toNatClampNeg) 0) 9 (((64 * 2) + ((x_mi w 10 2) + 1)).toNatClampNeg) (-1))) rfl (kp_mi dA (u_mi (u_ml (u_mi (u_mi (u_mi (u_mc w 0 0) 3 1 0) 10 2 ((x_mi w 10 2) + 1)) 6 (((64 * 2) + ((x_mi w 10 2) + 1)).toNatClampNeg) 1) 7 (((64 * 2) + ((x_mi w 10 2) + 1)).toNatClampNeg) (f_Model_stateOfBits (u_mc w 0 0) (x_mi w 3 1).toNatClampNeg)) 8 (((64 * 2) + ((x_mi w 10 2) + 1)).toNatClampNeg) 0) 9 (((64 * 2) + ((x_mi w 10 2) + 1)).toNatClampNeg) (-1)) (fun H locs hW hS => ?_)
      have hW : cm_Wo D dA b0 (u_mi (u_mi (u_ml (u_mi (u_mi (u_mi (u_mc w 0 0) 3 1 0) 10 2 ((x_mi w 10 2) + 1)) 6 (((64 * 2) + ((x_mi w 10 2) + 1)).toNatClampNeg) 1) 7 (((64 * 2) + ((x_mi w 10 2) + 1)).toNatClampNeg) (f_Model_stateOfBits (u_mc w 0 0) (x_mi w 3 1).toNatClampNeg)) 8 (((64 * 2) + ((x_mi w 10 2) + 1)).toNatClampNeg) 0) 9 (((64 * 2) + ((x_mi w 10 2) + 1)).toNatClampNeg) (-1)) H := to_mi hW
      refine lv_aload_n hx hb d_Model_make_273 rfl (lv_at hl 4 rfl) ?_
      refine lv_dup hx hb d_Model_make_274 rfl ?_
      refine cd_get (ci := 4) (C := R_Model) (T := F_Model) (N := 20) (v := .int (x_mc w 7)) hx hb hA i_Model hown hK hW 9 0 rfl rfl rfl 18 (by decide) mw_189 rfl rfl d_Model_make_275 ?_
      refine lv_iconst (v := 1) hx hb d_Model_make_278 (by decide) ?_
      refine lv_iadd hx hb d_Model_make_279 ?_
      refine cd_put (ci := 4) (C := R_Model) (T := F_Model) (N := 20) (v := .int ((x_mc w 7) + 1)) hx hb hA i_Model t_Model t_Model_ok n_Model hown hK hW hS 9 0 rfl rfl rfl 18 (by decide) mw_189 rfl rfl rfl rfl (Nat.le_of_ble_eq_true rfl) d_Model_make_280 (cm_ce dA (u_mc (u_mi (u_mi (u_ml (u_mi (u_mi (u_mi (u_mc w 0 0) 3 1 0) 10 2 ((x_mi w 10 2) + 1)) 6 (((64 * 2) + ((x_mi w 10 2) + 1)).toNatClampNeg) 1) 7 (((64 * 2) + ((x_mi w 10 2) + 1)).toNatClampNeg) (f_Model_stateOfBits (u_mc w 0 0) (x_mi w 3 1).toNatClampNeg)) 8 (((64 * 2) + ((x_mi w 10 2) + 1)).toNatClampNeg) 0) 9 (((64 * 2) + ((x_mi w 10 2) + 1)).toNatClampNeg) (-1)) 7 ((x_mc w 7) + 1))) rfl (kp_mc dA (u_mi (u_mi (u_ml (u_mi (u_mi (u_mi (u_mc w 0 0) 3 1 0) 10 2 ((x_mi w 10 2) + 1)) 6 (((64 * 2) + ((x_mi w 10 2) + 1)).toNatClampNeg) 1) 7 (((64 * 2) + ((x_mi w 10 2) + 1)).toNatClampNeg) (f_Model_stateOfBits (u_mc w 0 0) (x_mi w 3 1).toNatClampNeg)) 8 (((64 * 2) + ((x_mi w 10 2) + 1)).toNatClampNeg) 0) 9 (((64 * 2) + ((x_mi w 10 2) + 1)).toNatClampNeg) (-1)) 7 ((x_mc w 7) + 1)) (fun H locs hW hS => ?_)
      have hW : cm_Wo D dA b0 (u_mc (u_mi (u_mi (u_ml (u_mi (u_mi (u_mi (u_mc w 0 0) 3 1 0) 10 2 ((x_mi w 10 2) + 1)) 6 (((64 * 2) + ((x_mi w 10 2) + 1)).toNatClampNeg) 1) 7 (((64 * 2) + ((x_mi w 10 2) + 1)).toNatClampNeg) (f_Model_stateOfBits (u_mc w 0 0) (x_mi w 3 1).toNatClampNeg)) 8 (((64 * 2) + ((x_mi w 10 2) + 1)).toNatClampNeg) 0) 9 (((64 * 2) + ((x_mi w 10 2) + 1)).toNatClampNeg) (-1)) 7 ((x_mc w 7) + 1)) H := to_mc hW
      refine lv_aload_n hx hb d_Model_make_283 rfl (lv_at hl 4 rfl) ?_
      refine lv_dup hx hb d_Model_make_284 rfl ?_
      refine cd_get (ci := 4) (C := R_Model) (T := F_Model) (N := 20) (v := .int (x_mc w 8)) hx hb hA i_Model hown hK hW 9 0 rfl rfl rfl 19 (by decide) mw_182 rfl rfl d_Model_make_285 ?_
      refine lv_iconst (v := 1) hx hb d_Model_make_288 (by decide) ?_
      refine lv_iadd hx hb d_Model_make_289 ?_
      refine cd_put (ci := 4) (C := R_Model) (T := F_Model) (N := 20) (v := .int ((x_mc w 8) + 1)) hx hb hA i_Model t_Model t_Model_ok n_Model hown hK hW hS 9 0 rfl rfl rfl 19 (by decide) mw_182 rfl rfl rfl rfl (Nat.le_of_ble_eq_true rfl) d_Model_make_290 (cm_ce dA (u_mc (u_mc (u_mi (u_mi (u_ml (u_mi (u_mi (u_mi (u_mc w 0 0) 3 1 0) 10 2 ((x_mi w 10 2) + 1)) 6 (((64 * 2) + ((x_mi w 10 2) + 1)).toNatClampNeg) 1) 7 (((64 * 2) + ((x_mi w 10 2) + 1)).toNatClampNeg) (f_Model_stateOfBits (u_mc w 0 0) (x_mi w 3 1).toNatClampNeg)) 8 (((64 * 2) + ((x_mi w 10 2) + 1)).toNatClampNeg) 0) 9 (((64 * 2) + ((x_mi w 10 2) + 1)).toNatClampNeg) (-1)) 7 ((x_mc w 7) + 1)) 8 ((x_mc w 8) + 1))) rfl (kp_mc dA (u_mc (u_mi (u_mi (u_ml (u_mi (u_mi (u_mi (u_mc w 0 0) 3 1 0) 10 2 ((x_mi w 10 2) + 1)) 6 (((64 * 2) + ((x_mi w 10 2) + 1)).toNatClampNeg) 1) 7 (((64 * 2) + ((x_mi w 10 2) + 1)).toNatClampNeg) (f_Model_stateOfBits (u_mc w 0 0) (x_mi w 3 1).toNatClampNeg)) 8 (((64 * 2) + ((x_mi w 10 2) + 1)).toNatClampNeg) 0) 9 (((64 * 2) + ((x_mi w 10 2) + 1)).toNatClampNeg) (-1)) 7 ((x_mc w 7) + 1)) 8 ((x_mc w 8) + 1)) (fun H locs hW hS => ?_)
      have hW : cm_Wo D dA b0 (u_mc (u_mc (u_mi (u_mi (u_ml (u_mi (u_mi (u_mi (u_mc w 0 0) 3 1 0) 10 2 ((x_mi w 10 2) + 1)) 6 (((64 * 2) + ((x_mi w 10 2) + 1)).toNatClampNeg) 1) 7 (((64 * 2) + ((x_mi w 10 2) + 1)).toNatClampNeg) (f_Model_stateOfBits (u_mc w 0 0) (x_mi w 3 1).toNatClampNeg)) 8 (((64 * 2) + ((x_mi w 10 2) + 1)).toNatClampNeg) 0) 9 (((64 * 2) + ((x_mi w 10 2) + 1)).toNatClampNeg) (-1)) 7 ((x_mc w 7) + 1)) 8 ((x_mc w 8) + 1)) H := to_mc hW
      refine lv_iload hx hb d_Model_make_293 (lv_at hl 0 rfl) ?_
      have hf : f_Model_make2 w = (((64 * 2) + ((x_mi w 10 2) + 1)), (u_mc (u_mc (u_mi (u_mi (u_ml (u_mi (u_mi (u_mi (u_mc w 0 0) 3 1 0) 10 2 ((x_mi w 10 2) + 1)) 6 (((64 * 2) + ((x_mi w 10 2) + 1)).toNatClampNeg) 1) 7 (((64 * 2) + ((x_mi w 10 2) + 1)).toNatClampNeg) (f_Model_stateOfBits (u_mc w 0 0) (x_mi w 3 1).toNatClampNeg)) 8 (((64 * 2) + ((x_mi w 10 2) + 1)).toNatClampNeg) 0) 9 (((64 * 2) + ((x_mi w 10 2) + 1)).toNatClampNeg) (-1)) 7 ((x_mc w 7) + 1)) 8 ((x_mc w 8) + 1))) := by
        simp only [f_Model_make2, if_neg c_9, if_neg c_10]
      exact cd_iret hx hb hr hlocks hW hS d_Model_make_295 ⟨by rw [hf], by rw [hf], by rw [hf], by rw [hf]⟩ (Nat.le_of_ble_eq_true rfl) (Nat.le_of_ble_eq_true rfl)
    · skip
      refine lv_aload_n hx hb d_Model_make_119 rfl (lv_at hl 2 rfl) ?_
      refine lv_bipush (v := (-4)) hx hb d_Model_make_120 (by decide) ?_
      refine cm_cV (w0 := (f_Model_refuse (u_mc w 0 0) (-4)).2) (x0 := .int ((f_Model_refuse (u_mc w 0 0) (-4)).1)) (rest := []) (n := 1) ⟨hx, hb, hml, hown, hA⟩ (cd_GA mw_173) hE hb0 hW hS 9 0 rfl rfl rfl (c_Model_refuse l D dA b0 (u_mc w 0 0) (-4)) mw_177 mw_175 mw_176 mw_174 (by decide +kernel) rfl rfl ⟨by decide, by decide⟩ rfl hl.1 rfl (Nat.le_of_ble_eq_true rfl) d_Model_make_122 ⟨by decide, by decide⟩ (fun H locs hW hS => ?_)
      have hf : f_Model_make2 w = ((f_Model_refuse (u_mc w 0 0) (-4)).1, (f_Model_refuse (u_mc w 0 0) (-4)).2) := by
        simp only [f_Model_make2, if_neg c_9, if_pos c_10]
      exact cd_iret hx hb hr hlocks hW hS d_Model_make_125 ⟨by rw [hf], by rw [hf], by rw [hf], by rw [hf]⟩ (Nat.le_of_ble_eq_true rfl) (Nat.le_of_ble_eq_true rfl)
  · skip
    refine lv_goto (tgt := 101) hx hb d_Model_make_94 (by decide) ?_
    refine lv_aload_n hx hb d_Model_make_101 rfl (lv_at hl 2 rfl) ?_
    refine lv_bipush (v := (-3)) hx hb d_Model_make_102 (by decide) ?_
    refine cm_cV (w0 := (f_Model_refuse (u_mc w 0 0) (-3)).2) (x0 := .int ((f_Model_refuse (u_mc w 0 0) (-3)).1)) (rest := []) (n := 1) ⟨hx, hb, hml, hown, hA⟩ (cd_GA mw_173) hE hb0 hW hS 9 0 rfl rfl rfl (c_Model_refuse l D dA b0 (u_mc w 0 0) (-3)) mw_177 mw_175 mw_176 mw_174 (by decide +kernel) rfl rfl ⟨by decide, by decide⟩ rfl hl.1 rfl (Nat.le_of_ble_eq_true rfl) d_Model_make_104 ⟨by decide, by decide⟩ (fun H locs hW hS => ?_)
    have hf : f_Model_make2 w = ((f_Model_refuse (u_mc w 0 0) (-3)).1, (f_Model_refuse (u_mc w 0 0) (-3)).2) := by
      simp only [f_Model_make2, if_pos c_9]
    exact cd_iret hx hb hr hlocks hW hS d_Model_make_107 ⟨by rw [hf], by rw [hf], by rw [hf], by rw [hf]⟩ (Nat.le_of_ble_eq_true rfl) (Nat.le_of_ble_eq_true rfl)

def f_Model_make3 (w : cm_W)  : Int32 × cm_W := if 0 ≤ (f_Model_latest (u_mc w 0 0) 1) then (if (x_mi w 10 3) = 20 then ((f_Model_refuse (u_mc w 0 0) (-4)).1, (f_Model_refuse (u_mc w 0 0) (-4)).2) else (((64 * 3) + ((x_mi w 10 3) + 1)), (u_mc (u_mc (u_mi (u_mi (u_ml (u_mi (u_mi (u_mc w 0 0) 10 3 ((x_mi w 10 3) + 1)) 6 (((64 * 3) + ((x_mi w 10 3) + 1)).toNatClampNeg) 1) 7 (((64 * 3) + ((x_mi w 10 3) + 1)).toNatClampNeg) 0) 8 (((64 * 3) + ((x_mi w 10 3) + 1)).toNatClampNeg) 0) 9 (((64 * 3) + ((x_mi w 10 3) + 1)).toNatClampNeg) (f_Model_latest (u_mc w 0 0) 1)) 7 ((x_mc w 7) + 1)) 8 ((x_mc w 8) + 1)))) else ((f_Model_refuse (u_mc w 0 0) (-3)).1, (f_Model_refuse (u_mc w 0 0) (-3)).2)
set_option maxHeartbeats 4000000 in
set_option maxRecDepth 100000 in
theorem c_Model_make3 (l : Launch) (D : va_G) (dA : Nat → ClassId) (b0 : Nat) (w : cm_W) (hco : ∀ t, t < 3 → ∃ c, c ≤ 200 ∧ x_mi w 3 t = nI c) (hma : ∀ k, k < 6 → ∃ c, c ≤ 20 ∧ x_mi w 10 k = nI c) : cd_Ct l D (cx_tys dA) b0 y_Model_make (.code y_Model_make b_Model_make 7 (some .int) :: cd_WA) { frames := 1, cells := 0, slots := 0, locals := 25 } [.ref (m_ad w 9 0), .int 3] (cm_dm w) (m_ad w) (cm_ce dA w) (cm_R dA (some (.int (f_Model_make3 w).1)) (f_Model_make3 w).2) 0 0 := by
  refine cd_Ct.of b_Model_make 7 (some .int) (by decide) rfl ?_
  intro p e s m below meth c hx hb hr hml hown hlocks hnm hA hE hb0 hW hS ls hl
  have hK := hE.1
  have hl : lv_has ls 7 [(0, .ref (m_ad w 9 0)), (1, .int 3)] := hl
  refine lv_aload_n hx hb d_Model_make_0 rfl (lv_at hl 0 rfl) ?_
  refine lv_iconst (v := 0) hx hb d_Model_make_1 (by decide) ?_
  refine cd_put (ci := 4) (C := R_Model) (T := F_Model) (N := 20) (v := .int 0) hx hb hA i_Model t_Model t_Model_ok n_Model hown hK hW hS 9 0 rfl rfl rfl 0 (by decide) mw_172 rfl rfl rfl rfl (Nat.le_of_ble_eq_true rfl) d_Model_make_2 (cm_ce dA (u_mc w 0 0)) rfl (kp_mc dA w 0 0) (fun H locs hW hS => ?_)
  have hW : cm_Wo D dA b0 (u_mc w 0 0) H := to_mc hW
  refine lv_iload_n hx hb d_Model_make_5 rfl (lv_at hl 1 rfl) ?_
  refine lv_if_lt (tgt := 14) hx hb d_Model_make_6 (by decide) (fun c_1 => absurd c_1 (by decide)) (fun _ => ?_)
  refine lv_iload_n hx hb d_Model_make_9 rfl (lv_at hl 1 rfl) ?_
  refine lv_iconst (v := 5) hx hb d_Model_make_10 (by decide) ?_
  refine lv_icmp_le (tgt := 20) hx hb d_Model_make_11 (by decide) (fun _ => ?_) (fun c_2 => absurd (by decide) c_2)
  refine lv_iload_n hx hb d_Model_make_20 rfl (lv_at hl 1 rfl) ?_
  refine lv_if_ne (tgt := 28) hx hb d_Model_make_21 (by decide) (fun _ => ?_) (fun c_3 => absurd c_3 (by decide))
  refine lv_iload_n hx hb d_Model_make_28 rfl (lv_at hl 1 rfl) ?_
  refine lv_iconst (v := 2) hx hb d_Model_make_29 (by decide) ?_
  refine lv_icmp_ne (tgt := 37) hx hb d_Model_make_30 (by decide) (fun _ => ?_) (fun c_4 => absurd c_4 (by decide))
  refine lv_iload_n hx hb d_Model_make_37 rfl (lv_at hl 1 rfl) ?_
  refine lv_iconst (v := 4) hx hb d_Model_make_38 (by decide) ?_
  refine lv_icmp_ne (tgt := 46) hx hb d_Model_make_39 (by decide) (fun _ => ?_) (fun c_5 => absurd c_5 (by decide))
  refine lv_iconst (v := (-1)) hx hb d_Model_make_46 (by decide) ?_
  refine lv_istore_n (lv' := [(2, .int (-1)), (0, .ref (m_ad w 9 0)), (1, .int 3)]) hx hb d_Model_make_47 rfl hl (by decide) rfl (fun ls hl => ?_)
  refine lv_iload_n hx hb d_Model_make_48 rfl (lv_at hl 2 rfl) ?_
  refine lv_iconst (v := 1) hx hb d_Model_make_49 (by decide) ?_
  refine lv_icmp_ne (tgt := 61) hx hb d_Model_make_50 (by decide) (fun _ => ?_) (fun c_6 => absurd c_6 (by decide))
  refine lv_iload_n hx hb d_Model_make_61 rfl (lv_at hl 2 rfl) ?_
  refine lv_iconst (v := 3) hx hb d_Model_make_62 (by decide) ?_
  refine lv_icmp_eq (tgt := 71) hx hb d_Model_make_63 (by decide) (fun _ => ?_) (fun c_7 => absurd (by decide) c_7)
  refine lv_aload_n hx hb d_Model_make_71 rfl (lv_at hl 1 rfl) ?_
  refine lv_iconst (v := 1) hx hb d_Model_make_72 (by decide) ?_
  refine cm_cV (w0 := (u_mc w 0 0)) (x0 := .int (f_Model_latest (u_mc w 0 0) 1)) (rest := []) (n := 1) ⟨hx, hb, hml, hown, hA⟩ (cd_GA mw_235) hE hb0 hW hS 9 0 rfl rfl rfl (c_Model_latest l D dA b0 (u_mc w 0 0) 1 (by decide)) mw_238 mw_236 mw_237 mw_174 (by decide +kernel) rfl rfl ⟨by decide, by decide⟩ rfl hl.1 rfl (Nat.le_of_ble_eq_true rfl) d_Model_make_73 ⟨by decide, by decide⟩ (fun H locs hW hS => ?_)
  refine lv_goto (tgt := 80) hx hb d_Model_make_76 (by decide) ?_
  refine lv_istore_n (lv' := [(3, .int (f_Model_latest (u_mc w 0 0) 1)), (2, .int (-1)), (0, .ref (m_ad w 9 0)), (1, .int 3)]) hx hb d_Model_make_80 rfl hl (by decide) rfl (fun ls hl => ?_)
  refine lv_iload_n hx hb d_Model_make_81 rfl (lv_at hl 1 rfl) ?_
  refine lv_if_lt (tgt := 97) hx hb d_Model_make_82 (by decide) (fun _ => ?_) (fun c_8 => absurd (by decide) c_8)
  refine lv_iload_n hx hb d_Model_make_97 rfl (lv_at hl 0 rfl) ?_
  refine lv_if_ge (tgt := 108) hx hb d_Model_make_98 (by decide) (fun c_9 => ?_) (fun c_9 => ?_)
  · skip
    refine lv_aload_n hx hb d_Model_make_108 rfl (lv_at hl 2 rfl) ?_
    refine cd_get (ci := 4) (C := R_Model) (T := F_Model) (N := 20) (v := .ref (m_ad w 10 10)) hx hb hA i_Model hown hK hW 9 0 rfl rfl rfl 11 (by decide) mw_230 rfl rfl d_Model_make_109 ?_
    refine lv_iload_n hx hb d_Model_make_112 rfl (lv_at hl 3 rfl) ?_
    refine cd_iald hx hb hK hW 10 10 (show (10 : Nat) < 11 from by decide) 0 rfl rfl (vp_in_nI (n := 3) (by decide) (by decide)) d_Model_make_113 ?_
    rw [show ((3 : Int32)).toNatClampNeg = 3 by decide]
    refine lv_bipush (v := 20) hx hb d_Model_make_114 (by decide) ?_
    refine lv_icmp_ne (tgt := 126) hx hb d_Model_make_116 (by decide) (fun c_10 => ?_) (fun c_10 => ?_)
    · skip
      refine lv_iload_n hx hb d_Model_make_126 rfl (lv_at hl 3 rfl) ?_
      refine lv_if_ne (tgt := 137) hx hb d_Model_make_127 (by decide) (fun _ => ?_) (fun c_11 => absurd c_11 (by decide))
      refine lv_iload_n hx hb d_Model_make_137 rfl (lv_at hl 3 rfl) ?_
      refine lv_iconst (v := 1) hx hb d_Model_make_138 (by decide) ?_
      refine lv_icmp_ne (tgt := 151) hx hb d_Model_make_139 (by decide) (fun _ => ?_) (fun c_12 => absurd c_12 (by decide))
      refine lv_iload_n hx hb d_Model_make_151 rfl (lv_at hl 3 rfl) ?_
      refine lv_iconst (v := 2) hx hb d_Model_make_152 (by decide) ?_
      refine lv_icmp_ne (tgt := 163) hx hb d_Model_make_153 (by decide) (fun _ => ?_) (fun c_13 => absurd c_13 (by decide))
      refine lv_iload_n hx hb d_Model_make_163 rfl (lv_at hl 3 rfl) ?_
      refine lv_iconst (v := 3) hx hb d_Model_make_164 (by decide) ?_
      refine lv_icmp_ne (tgt := 172) hx hb d_Model_make_165 (by decide) (fun c_14 => absurd (by decide) c_14) (fun _ => ?_)
      refine lv_lconst (v := 0) hx hb d_Model_make_168 (by decide) ?_
      refine lv_goto (tgt := 190) hx hb d_Model_make_169 (by decide) ?_
      refine lv_lstore (lv' := [(4, .long 0), (3, .int (f_Model_latest (u_mc w 0 0) 1)), (2, .int (-1)), (0, .ref (m_ad w 9 0)), (1, .int 3)]) hx hb d_Model_make_190 hl (by decide) rfl (fun ls hl => ?_)
      refine lv_iload_n hx hb d_Model_make_192 rfl (lv_at hl 2 rfl) ?_
      refine lv_if_lt (tgt := 203) hx hb d_Model_make_193 (by decide) (fun _ => ?_) (fun c_15 => absurd (by decide) c_15)
      refine lv_aload_n hx hb d_Model_make_203 rfl (lv_at hl 3 rfl) ?_
      refine cd_get (ci := 4) (C := R_Model) (T := F_Model) (N := 20) (v := .ref (m_ad w 10 10)) hx hb hA i_Model hown hK hW 9 0 rfl rfl rfl 11 (by decide) mw_230 rfl rfl d_Model_make_204 ?_
      refine lv_iload_n hx hb d_Model_make_207 rfl (lv_at hl 4 rfl) ?_
      refine lv_dup2_11 hx hb d_Model_make_208 rfl rfl ?_
      refine cd_iald hx hb hK hW 10 10 (show (10 : Nat) < 11 from by decide) 0 rfl rfl (vp_in_nI (n := 3) (by decide) (by decide)) d_Model_make_209 ?_
      rw [show ((3 : Int32)).toNatClampNeg = 3 by decide]
      refine lv_iconst (v := 1) hx hb d_Model_make_210 (by decide) ?_
      refine lv_iadd hx hb d_Model_make_211 ?_
      refine cd_iast hx hb hK hW hS 10 10 (show (10 : Nat) < 11 from by decide) 0 rfl rfl (vp_in_nI (n := 3) (by decide) (by decide)) d_Model_make_212 (cm_ce dA (u_mi (u_mc w 0 0) 10 3 ((x_mi w 10 3) + 1))) (by rw [show ((3 : Int32)).toNatClampNeg = 3 by decide]; rfl) (kp_mi dA (u_mc w 0 0) 10 3 ((x_mi w 10 3) + 1)) (fun H locs hW hS => ?_)
      have hW : cm_Wo D dA b0 (u_mi (u_mc w 0 0) 10 3 ((x_mi w 10 3) + 1)) H := to_mi hW
      refine lv_bipush (v := 64) hx hb d_Model_make_213 (by decide) ?_
      refine lv_iload_n hx hb d_Model_make_215 rfl (lv_at hl 4 rfl) ?_
      refine lv_imul hx hb d_Model_make_216 ?_
      refine lv_aload_n hx hb d_Model_make_217 rfl (lv_at hl 3 rfl) ?_
      refine cd_get (ci := 4) (C := R_Model) (T := F_Model) (N := 20) (v := .ref (m_ad w 10 10)) hx hb hA i_Model hown hK hW 9 0 rfl rfl rfl 11 (by decide) mw_230 rfl rfl d_Model_make_218 ?_
      refine lv_iload_n hx hb d_Model_make_221 rfl (lv_at hl 4 rfl) ?_
      refine cd_iald hx hb hK hW 10 10 (show (10 : Nat) < 11 from by decide) 0 rfl rfl (vp_in_nI (n := 3) (by decide) (by decide)) d_Model_make_222 ?_
      rw [show ((3 : Int32)).toNatClampNeg = 3 by decide]
      refine lv_iadd hx hb d_Model_make_223 ?_
      refine lv_istore (lv' := [(6, .int ((64 * 3) + ((x_mi w 10 3) + 1))), (4, .long 0), (3, .int (f_Model_latest (u_mc w 0 0) 1)), (2, .int (-1)), (0, .ref (m_ad w 9 0)), (1, .int 3)]) hx hb d_Model_make_224 hl (by decide) rfl (fun ls hl => ?_)
      refine lv_aload_n hx hb d_Model_make_226 rfl (lv_at hl 4 rfl) ?_
      refine cd_get (ci := 4) (C := R_Model) (T := F_Model) (N := 20) (v := .ref (m_ad w 10 6)) hx hb hA i_Model hown hK hW 9 0 rfl rfl rfl 7 (by decide) mw_191 rfl rfl d_Model_make_227 ?_
      refine lv_iload hx hb d_Model_make_230 (lv_at hl 0 rfl) ?_
      refine lv_iconst (v := 1) hx hb d_Model_make_232 (by decide) ?_
      refine cd_zast hx hb hK hW hS 10 6 (show (6 : Nat) < 11 from by decide) 4 rfl rfl (cm_mk (k := 3) (by decide) hma c_10) d_Model_make_233 (cm_ce dA (u_mi (u_mi (u_mc w 0 0) 10 3 ((x_mi w 10 3) + 1)) 6 (((64 * 3) + ((x_mi w 10 3) + 1)).toNatClampNeg) 1)) (by rw [show vp_nar .boolean 1 = 1 by decide]; rfl) (kp_mi dA (u_mi (u_mc w 0 0) 10 3 ((x_mi w 10 3) + 1)) 6 (((64 * 3) + ((x_mi w 10 3) + 1)).toNatClampNeg) 1) (fun H locs hW hS => ?_)
      have hW : cm_Wo D dA b0 (u_mi (u_mi (u_mc w 0 0) 10 3 ((x_mi w 10 3) + 1)) 6 (((64 * 3) + ((x_mi w 10 3) + 1)).toNatClampNeg) 1) H := to_mi hW
      refine lv_aload_n hx hb d_Model_make_234 rfl (lv_at hl 4 rfl) ?_
      refine cd_get (ci := 4) (C := R_Model) (T := F_Model) (N := 20) (v := .ref (m_ad w 10 7)) hx hb hA i_Model hown hK hW 9 0 rfl rfl rfl 8 (by decide) mw_211 rfl rfl d_Model_make_235 ?_
      refine lv_iload hx hb d_Model_make_238 (lv_at hl 0 rfl) ?_
      refine lv_lload hx hb d_Model_make_240 (lv_at hl 1 rfl) ?_
      refine cd_last hx hb hK hW hS 10 7 (show (7 : Nat) < 11 from by decide) 1 rfl rfl (cm_mk (k := 3) (by decide) hma c_10) d_Model_make_242 (cm_ce dA (u_ml (u_mi (u_mi (u_mc w 0 0) 10 3 ((x_mi w 10 3) + 1)) 6 (((64 * 3) + ((x_mi w 10 3) + 1)).toNatClampNeg) 1) 7 (((64 * 3) + ((x_mi w 10 3) + 1)).toNatClampNeg) 0)) rfl (kp_ml dA (u_mi (u_mi (u_mc w 0 0) 10 3 ((x_mi w 10 3) + 1)) 6 (((64 * 3) + ((x_mi w 10 3) + 1)).toNatClampNeg) 1) 7 (((64 * 3) + ((x_mi w 10 3) + 1)).toNatClampNeg) 0) (fun H locs hW hS => ?_)
      have hW : cm_Wo D dA b0 (u_ml (u_mi (u_mi (u_mc w 0 0) 10 3 ((x_mi w 10 3) + 1)) 6 (((64 * 3) + ((x_mi w 10 3) + 1)).toNatClampNeg) 1) 7 (((64 * 3) + ((x_mi w 10 3) + 1)).toNatClampNeg) 0) H := to_ml hW
      refine lv_aload_n hx hb d_Model_make_243 rfl (lv_at hl 4 rfl) ?_
      refine cd_get (ci := 4) (C := R_Model) (T := F_Model) (N := 20) (v := .ref (m_ad w 10 8)) hx hb hA i_Model hown hK hW 9 0 rfl rfl rfl 9 (by decide) mw_206 rfl rfl d_Model_make_244 ?_
      refine lv_iload hx hb d_Model_make_247 (lv_at hl 0 rfl) ?_
      refine lv_iconst (v := 0) hx hb d_Model_make_249 (by decide) ?_
      refine cd_iast hx hb hK hW hS 10 8 (show (8 : Nat) < 11 from by decide) 0 rfl rfl (cm_mk (k := 3) (by decide) hma c_10) d_Model_make_250 (cm_ce dA (u_mi (u_ml (u_mi (u_mi (u_mc w 0 0) 10 3 ((x_mi w 10 3) + 1)) 6 (((64 * 3) + ((x_mi w 10 3) + 1)).toNatClampNeg) 1) 7 (((64 * 3) + ((x_mi w 10 3) + 1)).toNatClampNeg) 0) 8 (((64 * 3) + ((x_mi w 10 3) + 1)).toNatClampNeg) 0)) rfl (kp_mi dA (u_ml (u_mi (u_mi (u_mc w 0 0) 10 3 ((x_mi w 10 3) + 1)) 6 (((64 * 3) + ((x_mi w 10 3) + 1)).toNatClampNeg) 1) 7 (((64 * 3) + ((x_mi w 10 3) + 1)).toNatClampNeg) 0) 8 (((64 * 3) + ((x_mi w 10 3) + 1)).toNatClampNeg) 0) (fun H locs hW hS => ?_)
      have hW : cm_Wo D dA b0 (u_mi (u_ml (u_mi (u_mi (u_mc w 0 0) 10 3 ((x_mi w 10 3) + 1)) 6 (((64 * 3) + ((x_mi w 10 3) + 1)).toNatClampNeg) 1) 7 (((64 * 3) + ((x_mi w 10 3) + 1)).toNatClampNeg) 0) 8 (((64 * 3) + ((x_mi w 10 3) + 1)).toNatClampNeg) 0) H := to_mi hW
      refine lv_aload_n hx hb d_Model_make_251 rfl (lv_at hl 4 rfl) ?_
      refine cd_get (ci := 4) (C := R_Model) (T := F_Model) (N := 20) (v := .ref (m_ad w 10 9)) hx hb hA i_Model hown hK hW 9 0 rfl rfl rfl 10 (by decide) mw_200 rfl rfl d_Model_make_252 ?_
      refine lv_iload hx hb d_Model_make_255 (lv_at hl 0 rfl) ?_
      refine lv_iload_n hx hb d_Model_make_257 rfl (lv_at hl 5 rfl) ?_
      refine lv_iconst (v := 1) hx hb d_Model_make_258 (by decide) ?_
      refine lv_icmp_eq (tgt := 267) hx hb d_Model_make_259 (by decide) (fun c_16 => absurd c_16 (by decide)) (fun _ => ?_)
      refine lv_iload_n hx hb d_Model_make_262 rfl (lv_at hl 5 rfl) ?_
      refine lv_iconst (v := 3) hx hb d_Model_make_263 (by decide) ?_
      refine lv_icmp_ne (tgt := 271) hx hb d_Model_make_264 (by decide) (fun c_17 => absurd (by decide) c_17) (fun _ => ?_)
      refine lv_iload_n hx hb d_Model_make_267 rfl (lv_at hl 2 rfl) ?_
      refine lv_goto (tgt := 272) hx hb d_Model_make_268 (by decide) ?_
      refine cd_iast hx hb hK hW hS 10 9 (show (9 : Nat) < 11 from by decide) 0 rfl rfl (cm_mk (k := 3) (by decide) hma c_10) d_Model_make_272 (cm_ce dA (u_mi (u_mi (u_ml (u_mi (u_mi (u_mc w 0 0) 10 3 ((x_mi w 10 3) + 1)) 6 (((64 * 3) + ((x_mi w 10 3) + 1)).toNatClampNeg) 1) 7 (((64 * 3) + ((x_mi w 10 3) + 1)).toNatClampNeg) 0) 8 (((64 * 3) + ((x_mi w 10 3) + 1)).toNatClampNeg) 0) 9 (((64 * 3) + ((x_mi w 10 3) + 1)).toNatClampNeg) (f_Model_latest (u_mc w 0 0) 1))) rfl (kp_mi dA (u_mi (u_ml (u_mi (u_mi (u_mc w 0 0) 10 3 ((x_mi w 10 3) + 1)) 6 (((64 * 3) + ((x_mi w 10 3) + 1)).toNatClampNeg) 1) 7 (((64 * 3) + ((x_mi w 10 3) + 1)).toNatClampNeg) 0) 8 (((64 * 3) + ((x_mi w 10 3) + 1)).toNatClampNeg) 0) 9 (((64 * 3) + ((x_mi w 10 3) + 1)).toNatClampNeg) (f_Model_latest (u_mc w 0 0) 1)) (fun H locs hW hS => ?_)
      have hW : cm_Wo D dA b0 (u_mi (u_mi (u_ml (u_mi (u_mi (u_mc w 0 0) 10 3 ((x_mi w 10 3) + 1)) 6 (((64 * 3) + ((x_mi w 10 3) + 1)).toNatClampNeg) 1) 7 (((64 * 3) + ((x_mi w 10 3) + 1)).toNatClampNeg) 0) 8 (((64 * 3) + ((x_mi w 10 3) + 1)).toNatClampNeg) 0) 9 (((64 * 3) + ((x_mi w 10 3) + 1)).toNatClampNeg) (f_Model_latest (u_mc w 0 0) 1)) H := to_mi hW
      refine lv_aload_n hx hb d_Model_make_273 rfl (lv_at hl 4 rfl) ?_
      refine lv_dup hx hb d_Model_make_274 rfl ?_
      refine cd_get (ci := 4) (C := R_Model) (T := F_Model) (N := 20) (v := .int (x_mc w 7)) hx hb hA i_Model hown hK hW 9 0 rfl rfl rfl 18 (by decide) mw_189 rfl rfl d_Model_make_275 ?_
      refine lv_iconst (v := 1) hx hb d_Model_make_278 (by decide) ?_
      refine lv_iadd hx hb d_Model_make_279 ?_
      refine cd_put (ci := 4) (C := R_Model) (T := F_Model) (N := 20) (v := .int ((x_mc w 7) + 1)) hx hb hA i_Model t_Model t_Model_ok n_Model hown hK hW hS 9 0 rfl rfl rfl 18 (by decide) mw_189 rfl rfl rfl rfl (Nat.le_of_ble_eq_true rfl) d_Model_make_280 (cm_ce dA (u_mc (u_mi (u_mi (u_ml (u_mi (u_mi (u_mc w 0 0) 10 3 ((x_mi w 10 3) + 1)) 6 (((64 * 3) + ((x_mi w 10 3) + 1)).toNatClampNeg) 1) 7 (((64 * 3) + ((x_mi w 10 3) + 1)).toNatClampNeg) 0) 8 (((64 * 3) + ((x_mi w 10 3) + 1)).toNatClampNeg) 0) 9 (((64 * 3) + ((x_mi w 10 3) + 1)).toNatClampNeg) (f_Model_latest (u_mc w 0 0) 1)) 7 ((x_mc w 7) + 1))) rfl (kp_mc dA (u_mi (u_mi (u_ml (u_mi (u_mi (u_mc w 0 0) 10 3 ((x_mi w 10 3) + 1)) 6 (((64 * 3) + ((x_mi w 10 3) + 1)).toNatClampNeg) 1) 7 (((64 * 3) + ((x_mi w 10 3) + 1)).toNatClampNeg) 0) 8 (((64 * 3) + ((x_mi w 10 3) + 1)).toNatClampNeg) 0) 9 (((64 * 3) + ((x_mi w 10 3) + 1)).toNatClampNeg) (f_Model_latest (u_mc w 0 0) 1)) 7 ((x_mc w 7) + 1)) (fun H locs hW hS => ?_)
      have hW : cm_Wo D dA b0 (u_mc (u_mi (u_mi (u_ml (u_mi (u_mi (u_mc w 0 0) 10 3 ((x_mi w 10 3) + 1)) 6 (((64 * 3) + ((x_mi w 10 3) + 1)).toNatClampNeg) 1) 7 (((64 * 3) + ((x_mi w 10 3) + 1)).toNatClampNeg) 0) 8 (((64 * 3) + ((x_mi w 10 3) + 1)).toNatClampNeg) 0) 9 (((64 * 3) + ((x_mi w 10 3) + 1)).toNatClampNeg) (f_Model_latest (u_mc w 0 0) 1)) 7 ((x_mc w 7) + 1)) H := to_mc hW
      refine lv_aload_n hx hb d_Model_make_283 rfl (lv_at hl 4 rfl) ?_
      refine lv_dup hx hb d_Model_make_284 rfl ?_
      refine cd_get (ci := 4) (C := R_Model) (T := F_Model) (N := 20) (v := .int (x_mc w 8)) hx hb hA i_Model hown hK hW 9 0 rfl rfl rfl 19 (by decide) mw_182 rfl rfl d_Model_make_285 ?_
      refine lv_iconst (v := 1) hx hb d_Model_make_288 (by decide) ?_
      refine lv_iadd hx hb d_Model_make_289 ?_
      refine cd_put (ci := 4) (C := R_Model) (T := F_Model) (N := 20) (v := .int ((x_mc w 8) + 1)) hx hb hA i_Model t_Model t_Model_ok n_Model hown hK hW hS 9 0 rfl rfl rfl 19 (by decide) mw_182 rfl rfl rfl rfl (Nat.le_of_ble_eq_true rfl) d_Model_make_290 (cm_ce dA (u_mc (u_mc (u_mi (u_mi (u_ml (u_mi (u_mi (u_mc w 0 0) 10 3 ((x_mi w 10 3) + 1)) 6 (((64 * 3) + ((x_mi w 10 3) + 1)).toNatClampNeg) 1) 7 (((64 * 3) + ((x_mi w 10 3) + 1)).toNatClampNeg) 0) 8 (((64 * 3) + ((x_mi w 10 3) + 1)).toNatClampNeg) 0) 9 (((64 * 3) + ((x_mi w 10 3) + 1)).toNatClampNeg) (f_Model_latest (u_mc w 0 0) 1)) 7 ((x_mc w 7) + 1)) 8 ((x_mc w 8) + 1))) rfl (kp_mc dA (u_mc (u_mi (u_mi (u_ml (u_mi (u_mi (u_mc w 0 0) 10 3 ((x_mi w 10 3) + 1)) 6 (((64 * 3) + ((x_mi w 10 3) + 1)).toNatClampNeg) 1) 7 (((64 * 3) + ((x_mi w 10 3) + 1)).toNatClampNeg) 0) 8 (((64 * 3) + ((x_mi w 10 3) + 1)).toNatClampNeg) 0) 9 (((64 * 3) + ((x_mi w 10 3) + 1)).toNatClampNeg) (f_Model_latest (u_mc w 0 0) 1)) 7 ((x_mc w 7) + 1)) 8 ((x_mc w 8) + 1)) (fun H locs hW hS => ?_)
      have hW : cm_Wo D dA b0 (u_mc (u_mc (u_mi (u_mi (u_ml (u_mi (u_mi (u_mc w 0 0) 10 3 ((x_mi w 10 3) + 1)) 6 (((64 * 3) + ((x_mi w 10 3) + 1)).toNatClampNeg) 1) 7 (((64 * 3) + ((x_mi w 10 3) + 1)).toNatClampNeg) 0) 8 (((64 * 3) + ((x_mi w 10 3) + 1)).toNatClampNeg) 0) 9 (((64 * 3) + ((x_mi w 10 3) + 1)).toNatClampNeg) (f_Model_latest (u_mc w 0 0) 1)) 7 ((x_mc w 7) + 1)) 8 ((x_mc w 8) + 1)) H := to_mc hW
      refine lv_iload hx hb d_Model_make_293 (lv_at hl 0 rfl) ?_
      have hf : f_Model_make3 w = (((64 * 3) + ((x_mi w 10 3) + 1)), (u_mc (u_mc (u_mi (u_mi (u_ml (u_mi (u_mi (u_mc w 0 0) 10 3 ((x_mi w 10 3) + 1)) 6 (((64 * 3) + ((x_mi w 10 3) + 1)).toNatClampNeg) 1) 7 (((64 * 3) + ((x_mi w 10 3) + 1)).toNatClampNeg) 0) 8 (((64 * 3) + ((x_mi w 10 3) + 1)).toNatClampNeg) 0) 9 (((64 * 3) + ((x_mi w 10 3) + 1)).toNatClampNeg) (f_Model_latest (u_mc w 0 0) 1)) 7 ((x_mc w 7) + 1)) 8 ((x_mc w 8) + 1))) := by
        simp only [f_Model_make3, if_pos c_9, if_neg c_10]
      exact cd_iret hx hb hr hlocks hW hS d_Model_make_295 ⟨by rw [hf], by rw [hf], by rw [hf], by rw [hf]⟩ (Nat.le_of_ble_eq_true rfl) (Nat.le_of_ble_eq_true rfl)
    · skip
      refine lv_aload_n hx hb d_Model_make_119 rfl (lv_at hl 2 rfl) ?_
      refine lv_bipush (v := (-4)) hx hb d_Model_make_120 (by decide) ?_
      refine cm_cV (w0 := (f_Model_refuse (u_mc w 0 0) (-4)).2) (x0 := .int ((f_Model_refuse (u_mc w 0 0) (-4)).1)) (rest := []) (n := 1) ⟨hx, hb, hml, hown, hA⟩ (cd_GA mw_173) hE hb0 hW hS 9 0 rfl rfl rfl (c_Model_refuse l D dA b0 (u_mc w 0 0) (-4)) mw_177 mw_175 mw_176 mw_174 (by decide +kernel) rfl rfl ⟨by decide, by decide⟩ rfl hl.1 rfl (Nat.le_of_ble_eq_true rfl) d_Model_make_122 ⟨by decide, by decide⟩ (fun H locs hW hS => ?_)
      have hf : f_Model_make3 w = ((f_Model_refuse (u_mc w 0 0) (-4)).1, (f_Model_refuse (u_mc w 0 0) (-4)).2) := by
        simp only [f_Model_make3, if_pos c_9, if_pos c_10]
      exact cd_iret hx hb hr hlocks hW hS d_Model_make_125 ⟨by rw [hf], by rw [hf], by rw [hf], by rw [hf]⟩ (Nat.le_of_ble_eq_true rfl) (Nat.le_of_ble_eq_true rfl)
  · skip
    refine lv_aload_n hx hb d_Model_make_101 rfl (lv_at hl 2 rfl) ?_
    refine lv_bipush (v := (-3)) hx hb d_Model_make_102 (by decide) ?_
    refine cm_cV (w0 := (f_Model_refuse (u_mc w 0 0) (-3)).2) (x0 := .int ((f_Model_refuse (u_mc w 0 0) (-3)).1)) (rest := []) (n := 1) ⟨hx, hb, hml, hown, hA⟩ (cd_GA mw_173) hE hb0 hW hS 9 0 rfl rfl rfl (c_Model_refuse l D dA b0 (u_mc w 0 0) (-3)) mw_177 mw_175 mw_176 mw_174 (by decide +kernel) rfl rfl ⟨by decide, by decide⟩ rfl hl.1 rfl (Nat.le_of_ble_eq_true rfl) d_Model_make_104 ⟨by decide, by decide⟩ (fun H locs hW hS => ?_)
    have hf : f_Model_make3 w = ((f_Model_refuse (u_mc w 0 0) (-3)).1, (f_Model_refuse (u_mc w 0 0) (-3)).2) := by
      simp only [f_Model_make3, if_neg c_9]
    exact cd_iret hx hb hr hlocks hW hS d_Model_make_107 ⟨by rw [hf], by rw [hf], by rw [hf], by rw [hf]⟩ (Nat.le_of_ble_eq_true rfl) (Nat.le_of_ble_eq_true rfl)

def f_Model_make4 (w : cm_W)  : Int32 × cm_W := if (x_mi w 3 2) = 0 then ((f_Model_refuse (u_mc w 0 0) (-3)).1, (f_Model_refuse (u_mc w 0 0) (-3)).2) else if (x_mi w 10 4) = 20 then ((f_Model_refuse (u_mc w 0 0) (-4)).1, (f_Model_refuse (u_mc w 0 0) (-4)).2) else (((64 * 4) + ((x_mi w 10 4) + 1)), (u_mc (u_mc (u_mi (u_mi (u_ml (u_mi (u_mi (u_mi (u_mc w 0 0) 3 2 0) 10 4 ((x_mi w 10 4) + 1)) 6 (((64 * 4) + ((x_mi w 10 4) + 1)).toNatClampNeg) 1) 7 (((64 * 4) + ((x_mi w 10 4) + 1)).toNatClampNeg) (f_Model_stateOfBytes (u_mc w 0 0) (x_mi w 3 2).toNatClampNeg)) 8 (((64 * 4) + ((x_mi w 10 4) + 1)).toNatClampNeg) 0) 9 (((64 * 4) + ((x_mi w 10 4) + 1)).toNatClampNeg) (-1)) 7 ((x_mc w 7) + 1)) 8 ((x_mc w 8) + 1)))
set_option maxHeartbeats 4000000 in
set_option maxRecDepth 100000 in
theorem c_Model_make4 (l : Launch) (D : va_G) (dA : Nat → ClassId) (b0 : Nat) (w : cm_W) (hco : ∀ t, t < 3 → ∃ c, c ≤ 200 ∧ x_mi w 3 t = nI c) (hma : ∀ k, k < 6 → ∃ c, c ≤ 20 ∧ x_mi w 10 k = nI c) : cd_Ct l D (cx_tys dA) b0 y_Model_make (.code y_Model_make b_Model_make 7 (some .int) :: cd_WA) { frames := 1, cells := 0, slots := 0, locals := 25 } [.ref (m_ad w 9 0), .int 4] (cm_dm w) (m_ad w) (cm_ce dA w) (cm_R dA (some (.int (f_Model_make4 w).1)) (f_Model_make4 w).2) 0 0 := by
  refine cd_Ct.of b_Model_make 7 (some .int) (by decide) rfl ?_
  intro p e s m below meth c hx hb hr hml hown hlocks hnm hA hE hb0 hW hS ls hl
  have hK := hE.1
  have hl : lv_has ls 7 [(0, .ref (m_ad w 9 0)), (1, .int 4)] := hl
  refine lv_aload_n hx hb d_Model_make_0 rfl (lv_at hl 0 rfl) ?_
  refine lv_iconst (v := 0) hx hb d_Model_make_1 (by decide) ?_
  refine cd_put (ci := 4) (C := R_Model) (T := F_Model) (N := 20) (v := .int 0) hx hb hA i_Model t_Model t_Model_ok n_Model hown hK hW hS 9 0 rfl rfl rfl 0 (by decide) mw_172 rfl rfl rfl rfl (Nat.le_of_ble_eq_true rfl) d_Model_make_2 (cm_ce dA (u_mc w 0 0)) rfl (kp_mc dA w 0 0) (fun H locs hW hS => ?_)
  have hW : cm_Wo D dA b0 (u_mc w 0 0) H := to_mc hW
  refine lv_iload_n hx hb d_Model_make_5 rfl (lv_at hl 1 rfl) ?_
  refine lv_if_lt (tgt := 14) hx hb d_Model_make_6 (by decide) (fun c_1 => absurd c_1 (by decide)) (fun _ => ?_)
  refine lv_iload_n hx hb d_Model_make_9 rfl (lv_at hl 1 rfl) ?_
  refine lv_iconst (v := 5) hx hb d_Model_make_10 (by decide) ?_
  refine lv_icmp_le (tgt := 20) hx hb d_Model_make_11 (by decide) (fun _ => ?_) (fun c_2 => absurd (by decide) c_2)
  refine lv_iload_n hx hb d_Model_make_20 rfl (lv_at hl 1 rfl) ?_
  refine lv_if_ne (tgt := 28) hx hb d_Model_make_21 (by decide) (fun _ => ?_) (fun c_3 => absurd c_3 (by decide))
  refine lv_iload_n hx hb d_Model_make_28 rfl (lv_at hl 1 rfl) ?_
  refine lv_iconst (v := 2) hx hb d_Model_make_29 (by decide) ?_
  refine lv_icmp_ne (tgt := 37) hx hb d_Model_make_30 (by decide) (fun _ => ?_) (fun c_4 => absurd c_4 (by decide))
  refine lv_iload_n hx hb d_Model_make_37 rfl (lv_at hl 1 rfl) ?_
  refine lv_iconst (v := 4) hx hb d_Model_make_38 (by decide) ?_
  refine lv_icmp_ne (tgt := 46) hx hb d_Model_make_39 (by decide) (fun c_5 => absurd (by decide) c_5) (fun _ => ?_)
  refine lv_iconst (v := 2) hx hb d_Model_make_42 (by decide) ?_
  refine lv_goto (tgt := 47) hx hb d_Model_make_43 (by decide) ?_
  refine lv_istore_n (lv' := [(2, .int 2), (0, .ref (m_ad w 9 0)), (1, .int 4)]) hx hb d_Model_make_47 rfl hl (by decide) rfl (fun ls hl => ?_)
  refine lv_iload_n hx hb d_Model_make_48 rfl (lv_at hl 2 rfl) ?_
  refine lv_iconst (v := 1) hx hb d_Model_make_49 (by decide) ?_
  refine lv_icmp_ne (tgt := 61) hx hb d_Model_make_50 (by decide) (fun _ => ?_) (fun c_6 => absurd c_6 (by decide))
  refine lv_iload_n hx hb d_Model_make_61 rfl (lv_at hl 2 rfl) ?_
  refine lv_iconst (v := 3) hx hb d_Model_make_62 (by decide) ?_
  refine lv_icmp_eq (tgt := 71) hx hb d_Model_make_63 (by decide) (fun c_7 => absurd c_7 (by decide)) (fun _ => ?_)
  refine lv_iload_n hx hb d_Model_make_66 rfl (lv_at hl 2 rfl) ?_
  refine lv_iconst (v := 5) hx hb d_Model_make_67 (by decide) ?_
  refine lv_icmp_ne (tgt := 79) hx hb d_Model_make_68 (by decide) (fun _ => ?_) (fun c_8 => absurd c_8 (by decide))
  refine lv_iconst (v := (-1)) hx hb d_Model_make_79 (by decide) ?_
  refine lv_istore_n (lv' := [(3, .int (-1)), (2, .int 2), (0, .ref (m_ad w 9 0)), (1, .int 4)]) hx hb d_Model_make_80 rfl hl (by decide) rfl (fun ls hl => ?_)
  refine lv_iload_n hx hb d_Model_make_81 rfl (lv_at hl 1 rfl) ?_
  refine lv_if_lt (tgt := 97) hx hb d_Model_make_82 (by decide) (fun c_9 => absurd c_9 (by decide)) (fun _ => ?_)
  refine lv_aload_n hx hb d_Model_make_85 rfl (lv_at hl 2 rfl) ?_
  refine cd_get (ci := 4) (C := R_Model) (T := F_Model) (N := 20) (v := .ref (m_ad w 10 3)) hx hb hA i_Model hown hK hW 9 0 rfl rfl rfl 4 (by decide) mw_190 rfl rfl d_Model_make_86 ?_
  refine lv_iload_n hx hb d_Model_make_89 rfl (lv_at hl 1 rfl) ?_
  refine cd_iald hx hb hK hW 10 3 (show (3 : Nat) < 11 from by decide) 0 rfl rfl (vp_in_nI (n := 2) (by decide) (by decide)) d_Model_make_90 ?_
  rw [show ((2 : Int32)).toNatClampNeg = 2 by decide]
  refine lv_if_ne (tgt := 108) hx hb d_Model_make_91 (by decide) (fun c_10 => ?_) (fun c_10 => ?_)
  · skip
    refine lv_aload_n hx hb d_Model_make_108 rfl (lv_at hl 2 rfl) ?_
    refine cd_get (ci := 4) (C := R_Model) (T := F_Model) (N := 20) (v := .ref (m_ad w 10 10)) hx hb hA i_Model hown hK hW 9 0 rfl rfl rfl 11 (by decide) mw_230 rfl rfl d_Model_make_109 ?_
    refine lv_iload_n hx hb d_Model_make_112 rfl (lv_at hl 3 rfl) ?_
    refine cd_iald hx hb hK hW 10 10 (show (10 : Nat) < 11 from by decide) 0 rfl rfl (vp_in_nI (n := 4) (by decide) (by decide)) d_Model_make_113 ?_
    rw [show ((4 : Int32)).toNatClampNeg = 4 by decide]
    refine lv_bipush (v := 20) hx hb d_Model_make_114 (by decide) ?_
    refine lv_icmp_ne (tgt := 126) hx hb d_Model_make_116 (by decide) (fun c_11 => ?_) (fun c_11 => ?_)
    · skip
      refine lv_iload_n hx hb d_Model_make_126 rfl (lv_at hl 3 rfl) ?_
      refine lv_if_ne (tgt := 137) hx hb d_Model_make_127 (by decide) (fun _ => ?_) (fun c_12 => absurd c_12 (by decide))
      refine lv_iload_n hx hb d_Model_make_137 rfl (lv_at hl 3 rfl) ?_
      refine lv_iconst (v := 1) hx hb d_Model_make_138 (by decide) ?_
      refine lv_icmp_ne (tgt := 151) hx hb d_Model_make_139 (by decide) (fun _ => ?_) (fun c_13 => absurd c_13 (by decide))
      refine lv_iload_n hx hb d_Model_make_151 rfl (lv_at hl 3 rfl) ?_
      refine lv_iconst (v := 2) hx hb d_Model_make_152 (by decide) ?_
      refine lv_icmp_ne (tgt := 163) hx hb d_Model_make_153 (by decide) (fun _ => ?_) (fun c_14 => absurd c_14 (by decide))
      refine lv_iload_n hx hb d_Model_make_163 rfl (lv_at hl 3 rfl) ?_
      refine lv_iconst (v := 3) hx hb d_Model_make_164 (by decide) ?_
      refine lv_icmp_ne (tgt := 172) hx hb d_Model_make_165 (by decide) (fun _ => ?_) (fun c_15 => absurd c_15 (by decide))
      refine lv_iload_n hx hb d_Model_make_172 rfl (lv_at hl 3 rfl) ?_
      refine lv_iconst (v := 4) hx hb d_Model_make_173 (by decide) ?_
      refine lv_icmp_ne (tgt := 184) hx hb d_Model_make_174 (by decide) (fun c_16 => absurd (by decide) c_16) (fun _ => ?_)
      refine lv_aload_n hx hb d_Model_make_177 rfl (lv_at hl 2 rfl) ?_
      refine cm_cV (w0 := (u_mc w 0 0)) (x0 := .long (f_Model_stateOfBytes (u_mc w 0 0) (x_mi w 3 2).toNatClampNeg)) (rest := []) (n := 0) ⟨hx, hb, hml, hown, hA⟩ (cd_GA mw_243) hE hb0 hW hS 9 0 rfl rfl rfl (c_Model_stateOfBytes l D dA b0 (u_mc w 0 0) (x_mi w 3 2).toNatClampNeg (cm_cl (hco 2 (by decide))).1 (cm_cl (hco 2 (by decide))).2) mw_246 mw_244 mw_245 mw_174 (by decide +kernel) rfl rfl ⟨by decide, by decide⟩ rfl hl.1 rfl (Nat.le_of_ble_eq_true rfl) d_Model_make_178 ⟨by decide, by decide⟩ (fun H locs hW hS => ?_)
      refine lv_goto (tgt := 190) hx hb d_Model_make_181 (by decide) ?_
      refine lv_lstore (lv' := [(4, .long (f_Model_stateOfBytes (u_mc w 0 0) (x_mi w 3 2).toNatClampNeg)), (3, .int (-1)), (2, .int 2), (0, .ref (m_ad w 9 0)), (1, .int 4)]) hx hb d_Model_make_190 hl (by decide) rfl (fun ls hl => ?_)
      refine lv_iload_n hx hb d_Model_make_192 rfl (lv_at hl 2 rfl) ?_
      refine lv_if_lt (tgt := 203) hx hb d_Model_make_193 (by decide) (fun c_17 => absurd c_17 (by decide)) (fun _ => ?_)
      refine lv_aload_n hx hb d_Model_make_196 rfl (lv_at hl 3 rfl) ?_
      refine cd_get (ci := 4) (C := R_Model) (T := F_Model) (N := 20) (v := .ref (m_ad w 10 3)) hx hb hA i_Model hown hK hW 9 0 rfl rfl rfl 4 (by decide) mw_190 rfl rfl d_Model_make_197 ?_
      refine lv_iload_n hx hb d_Model_make_200 rfl (lv_at hl 2 rfl) ?_
      refine lv_iconst (v := 0) hx hb d_Model_make_201 (by decide) ?_
      refine cd_iast hx hb hK hW hS 10 3 (show (3 : Nat) < 11 from by decide) 0 rfl rfl (vp_in_nI (n := 2) (by decide) (by decide)) d_Model_make_202 (cm_ce dA (u_mi (u_mc w 0 0) 3 2 0)) (by rw [show ((2 : Int32)).toNatClampNeg = 2 by decide]; rfl) (kp_mi dA (u_mc w 0 0) 3 2 0) (fun H locs hW hS => ?_)
      have hW : cm_Wo D dA b0 (u_mi (u_mc w 0 0) 3 2 0) H := to_mi hW
      refine lv_aload_n hx hb d_Model_make_203 rfl (lv_at hl 3 rfl) ?_
      refine cd_get (ci := 4) (C := R_Model) (T := F_Model) (N := 20) (v := .ref (m_ad w 10 10)) hx hb hA i_Model hown hK hW 9 0 rfl rfl rfl 11 (by decide) mw_230 rfl rfl d_Model_make_204 ?_
      refine lv_iload_n hx hb d_Model_make_207 rfl (lv_at hl 4 rfl) ?_
      refine lv_dup2_11 hx hb d_Model_make_208 rfl rfl ?_
      refine cd_iald hx hb hK hW 10 10 (show (10 : Nat) < 11 from by decide) 0 rfl rfl (vp_in_nI (n := 4) (by decide) (by decide)) d_Model_make_209 ?_
      rw [show ((4 : Int32)).toNatClampNeg = 4 by decide]
      refine lv_iconst (v := 1) hx hb d_Model_make_210 (by decide) ?_
      refine lv_iadd hx hb d_Model_make_211 ?_
      refine cd_iast hx hb hK hW hS 10 10 (show (10 : Nat) < 11 from by decide) 0 rfl rfl (vp_in_nI (n := 4) (by decide) (by decide)) d_Model_make_212 (cm_ce dA (u_mi (u_mi (u_mc w 0 0) 3 2 0) 10 4 ((x_mi w 10 4) + 1))) (by rw [show ((4 : Int32)).toNatClampNeg = 4 by decide]; rfl) (kp_mi dA (u_mi (u_mc w 0 0) 3 2 0) 10 4 ((x_mi w 10 4) + 1)) (fun H locs hW hS => ?_)
      have hW : cm_Wo D dA b0 (u_mi (u_mi (u_mc w 0 0) 3 2 0) 10 4 ((x_mi w 10 4) + 1)) H := to_mi hW
      refine lv_bipush (v := 64) hx hb d_Model_make_213 (by decide) ?_
      refine lv_iload_n hx hb d_Model_make_215 rfl (lv_at hl 4 rfl) ?_
      refine lv_imul hx hb d_Model_make_216 ?_
      refine lv_aload_n hx hb d_Model_make_217 rfl (lv_at hl 3 rfl) ?_
      refine cd_get (ci := 4) (C := R_Model) (T := F_Model) (N := 20) (v := .ref (m_ad w 10 10)) hx hb hA i_Model hown hK hW 9 0 rfl rfl rfl 11 (by decide) mw_230 rfl rfl d_Model_make_218 ?_
      refine lv_iload_n hx hb d_Model_make_221 rfl (lv_at hl 4 rfl) ?_
      refine cd_iald hx hb hK hW 10 10 (show (10 : Nat) < 11 from by decide) 0 rfl rfl (vp_in_nI (n := 4) (by decide) (by decide)) d_Model_make_222 ?_
      rw [show ((4 : Int32)).toNatClampNeg = 4 by decide]
      refine lv_iadd hx hb d_Model_make_223 ?_
      refine lv_istore (lv' := [(6, .int ((64 * 4) + ((x_mi w 10 4) + 1))), (4, .long (f_Model_stateOfBytes (u_mc w 0 0) (x_mi w 3 2).toNatClampNeg)), (3, .int (-1)), (2, .int 2), (0, .ref (m_ad w 9 0)), (1, .int 4)]) hx hb d_Model_make_224 hl (by decide) rfl (fun ls hl => ?_)
      refine lv_aload_n hx hb d_Model_make_226 rfl (lv_at hl 4 rfl) ?_
      refine cd_get (ci := 4) (C := R_Model) (T := F_Model) (N := 20) (v := .ref (m_ad w 10 6)) hx hb hA i_Model hown hK hW 9 0 rfl rfl rfl 7 (by decide) mw_191 rfl rfl d_Model_make_227 ?_
      refine lv_iload hx hb d_Model_make_230 (lv_at hl 0 rfl) ?_
      refine lv_iconst (v := 1) hx hb d_Model_make_232 (by decide) ?_
      refine cd_zast hx hb hK hW hS 10 6 (show (6 : Nat) < 11 from by decide) 4 rfl rfl (cm_mk (k := 4) (by decide) hma c_11) d_Model_make_233 (cm_ce dA (u_mi (u_mi (u_mi (u_mc w 0 0) 3 2 0) 10 4 ((x_mi w 10 4) + 1)) 6 (((64 * 4) + ((x_mi w 10 4) + 1)).toNatClampNeg) 1)) (by rw [show vp_nar .boolean 1 = 1 by decide]; rfl) (kp_mi dA (u_mi (u_mi (u_mc w 0 0) 3 2 0) 10 4 ((x_mi w 10 4) + 1)) 6 (((64 * 4) + ((x_mi w 10 4) + 1)).toNatClampNeg) 1) (fun H locs hW hS => ?_)
      have hW : cm_Wo D dA b0 (u_mi (u_mi (u_mi (u_mc w 0 0) 3 2 0) 10 4 ((x_mi w 10 4) + 1)) 6 (((64 * 4) + ((x_mi w 10 4) + 1)).toNatClampNeg) 1) H := to_mi hW
      refine lv_aload_n hx hb d_Model_make_234 rfl (lv_at hl 4 rfl) ?_
      refine cd_get (ci := 4) (C := R_Model) (T := F_Model) (N := 20) (v := .ref (m_ad w 10 7)) hx hb hA i_Model hown hK hW 9 0 rfl rfl rfl 8 (by decide) mw_211 rfl rfl d_Model_make_235 ?_
      refine lv_iload hx hb d_Model_make_238 (lv_at hl 0 rfl) ?_
      refine lv_lload hx hb d_Model_make_240 (lv_at hl 1 rfl) ?_
      refine cd_last hx hb hK hW hS 10 7 (show (7 : Nat) < 11 from by decide) 1 rfl rfl (cm_mk (k := 4) (by decide) hma c_11) d_Model_make_242 (cm_ce dA (u_ml (u_mi (u_mi (u_mi (u_mc w 0 0) 3 2 0) 10 4 ((x_mi w 10 4) + 1)) 6 (((64 * 4) + ((x_mi w 10 4) + 1)).toNatClampNeg) 1) 7 (((64 * 4) + ((x_mi w 10 4) + 1)).toNatClampNeg) (f_Model_stateOfBytes (u_mc w 0 0) (x_mi w 3 2).toNatClampNeg))) rfl (kp_ml dA (u_mi (u_mi (u_mi (u_mc w 0 0) 3 2 0) 10 4 ((x_mi w 10 4) + 1)) 6 (((64 * 4) + ((x_mi w 10 4) + 1)).toNatClampNeg) 1) 7 (((64 * 4) + ((x_mi w 10 4) + 1)).toNatClampNeg) (f_Model_stateOfBytes (u_mc w 0 0) (x_mi w 3 2).toNatClampNeg)) (fun H locs hW hS => ?_)
      have hW : cm_Wo D dA b0 (u_ml (u_mi (u_mi (u_mi (u_mc w 0 0) 3 2 0) 10 4 ((x_mi w 10 4) + 1)) 6 (((64 * 4) + ((x_mi w 10 4) + 1)).toNatClampNeg) 1) 7 (((64 * 4) + ((x_mi w 10 4) + 1)).toNatClampNeg) (f_Model_stateOfBytes (u_mc w 0 0) (x_mi w 3 2).toNatClampNeg)) H := to_ml hW
      refine lv_aload_n hx hb d_Model_make_243 rfl (lv_at hl 4 rfl) ?_
      refine cd_get (ci := 4) (C := R_Model) (T := F_Model) (N := 20) (v := .ref (m_ad w 10 8)) hx hb hA i_Model hown hK hW 9 0 rfl rfl rfl 9 (by decide) mw_206 rfl rfl d_Model_make_244 ?_
      refine lv_iload hx hb d_Model_make_247 (lv_at hl 0 rfl) ?_
      refine lv_iconst (v := 0) hx hb d_Model_make_249 (by decide) ?_
      refine cd_iast hx hb hK hW hS 10 8 (show (8 : Nat) < 11 from by decide) 0 rfl rfl (cm_mk (k := 4) (by decide) hma c_11) d_Model_make_250 (cm_ce dA (u_mi (u_ml (u_mi (u_mi (u_mi (u_mc w 0 0) 3 2 0) 10 4 ((x_mi w 10 4) + 1)) 6 (((64 * 4) + ((x_mi w 10 4) + 1)).toNatClampNeg) 1) 7 (((64 * 4) + ((x_mi w 10 4) + 1)).toNatClampNeg) (f_Model_stateOfBytes (u_mc w 0 0) (x_mi w 3 2).toNatClampNeg)) 8 (((64 * 4) + ((x_mi w 10 4) + 1)).toNatClampNeg) 0)) rfl (kp_mi dA (u_ml (u_mi (u_mi (u_mi (u_mc w 0 0) 3 2 0) 10 4 ((x_mi w 10 4) + 1)) 6 (((64 * 4) + ((x_mi w 10 4) + 1)).toNatClampNeg) 1) 7 (((64 * 4) + ((x_mi w 10 4) + 1)).toNatClampNeg) (f_Model_stateOfBytes (u_mc w 0 0) (x_mi w 3 2).toNatClampNeg)) 8 (((64 * 4) + ((x_mi w 10 4) + 1)).toNatClampNeg) 0) (fun H locs hW hS => ?_)
      have hW : cm_Wo D dA b0 (u_mi (u_ml (u_mi (u_mi (u_mi (u_mc w 0 0) 3 2 0) 10 4 ((x_mi w 10 4) + 1)) 6 (((64 * 4) + ((x_mi w 10 4) + 1)).toNatClampNeg) 1) 7 (((64 * 4) + ((x_mi w 10 4) + 1)).toNatClampNeg) (f_Model_stateOfBytes (u_mc w 0 0) (x_mi w 3 2).toNatClampNeg)) 8 (((64 * 4) + ((x_mi w 10 4) + 1)).toNatClampNeg) 0) H := to_mi hW
      refine lv_aload_n hx hb d_Model_make_251 rfl (lv_at hl 4 rfl) ?_
      refine cd_get (ci := 4) (C := R_Model) (T := F_Model) (N := 20) (v := .ref (m_ad w 10 9)) hx hb hA i_Model hown hK hW 9 0 rfl rfl rfl 10 (by decide) mw_200 rfl rfl d_Model_make_252 ?_
      refine lv_iload hx hb d_Model_make_255 (lv_at hl 0 rfl) ?_
      refine lv_iload_n hx hb d_Model_make_257 rfl (lv_at hl 5 rfl) ?_
      refine lv_iconst (v := 1) hx hb d_Model_make_258 (by decide) ?_
      refine lv_icmp_eq (tgt := 267) hx hb d_Model_make_259 (by decide) (fun c_18 => absurd c_18 (by decide)) (fun _ => ?_)
      refine lv_iload_n hx hb d_Model_make_262 rfl (lv_at hl 5 rfl) ?_
      refine lv_iconst (v := 3) hx hb d_Model_make_263 (by decide) ?_
      refine lv_icmp_ne (tgt := 271) hx hb d_Model_make_264 (by decide) (fun _ => ?_) (fun c_19 => absurd c_19 (by decide))
      refine lv_iconst (v := (-1)) hx hb d_Model_make_271 (by decide) ?_
      refine cd_iast hx hb hK hW hS 10 9 (show (9 : Nat) < 11 from by decide) 0 rfl rfl (cm_mk (k := 4) (by decide) hma c_11) d_Model_make_272 (cm_ce dA (u_mi (u_mi (u_ml (u_mi (u_mi (u_mi (u_mc w 0 0) 3 2 0) 10 4 ((x_mi w 10 4) + 1)) 6 (((64 * 4) + ((x_mi w 10 4) + 1)).toNatClampNeg) 1) 7 (((64 * 4) + ((x_mi w 10 4) + 1)).toNatClampNeg) (f_Model_stateOfBytes (u_mc w 0 0) (x_mi w 3 2).toNatClampNeg)) 8 (((64 * 4) + ((x_mi w 10 4) + 1)).toNatClampNeg) 0) 9 (((64 * 4) + ((x_mi w 10 4) + 1)).toNatClampNeg) (-1))) rfl (kp_mi dA (u_mi (u_ml (u_mi (u_mi (u_mi (u_mc w 0 0) 3 2 0) 10 4 ((x_mi w 10 4) + 1)) 6 (((64 * 4) + ((x_mi w 10 4) + 1)).toNatClampNeg) 1) 7 (((64 * 4) + ((x_mi w 10 4) + 1)).toNatClampNeg) (f_Model_stateOfBytes (u_mc w 0 0) (x_mi w 3 2).toNatClampNeg)) 8 (((64 * 4) + ((x_mi w 10 4) + 1)).toNatClampNeg) 0) 9 (((64 * 4) + ((x_mi w 10 4) + 1)).toNatClampNeg) (-1)) (fun H locs hW hS => ?_)
      have hW : cm_Wo D dA b0 (u_mi (u_mi (u_ml (u_mi (u_mi (u_mi (u_mc w 0 0) 3 2 0) 10 4 ((x_mi w 10 4) + 1)) 6 (((64 * 4) + ((x_mi w 10 4) + 1)).toNatClampNeg) 1) 7 (((64 * 4) + ((x_mi w 10 4) + 1)).toNatClampNeg) (f_Model_stateOfBytes (u_mc w 0 0) (x_mi w 3 2).toNatClampNeg)) 8 (((64 * 4) + ((x_mi w 10 4) + 1)).toNatClampNeg) 0) 9 (((64 * 4) + ((x_mi w 10 4) + 1)).toNatClampNeg) (-1)) H := to_mi hW
      refine lv_aload_n hx hb d_Model_make_273 rfl (lv_at hl 4 rfl) ?_
      refine lv_dup hx hb d_Model_make_274 rfl ?_
      refine cd_get (ci := 4) (C := R_Model) (T := F_Model) (N := 20) (v := .int (x_mc w 7)) hx hb hA i_Model hown hK hW 9 0 rfl rfl rfl 18 (by decide) mw_189 rfl rfl d_Model_make_275 ?_
      refine lv_iconst (v := 1) hx hb d_Model_make_278 (by decide) ?_
      refine lv_iadd hx hb d_Model_make_279 ?_
      refine cd_put (ci := 4) (C := R_Model) (T := F_Model) (N := 20) (v := .int ((x_mc w 7) + 1)) hx hb hA i_Model t_Model t_Model_ok n_Model hown hK hW hS 9 0 rfl rfl rfl 18 (by decide) mw_189 rfl rfl rfl rfl (Nat.le_of_ble_eq_true rfl) d_Model_make_280 (cm_ce dA (u_mc (u_mi (u_mi (u_ml (u_mi (u_mi (u_mi (u_mc w 0 0) 3 2 0) 10 4 ((x_mi w 10 4) + 1)) 6 (((64 * 4) + ((x_mi w 10 4) + 1)).toNatClampNeg) 1) 7 (((64 * 4) + ((x_mi w 10 4) + 1)).toNatClampNeg) (f_Model_stateOfBytes (u_mc w 0 0) (x_mi w 3 2).toNatClampNeg)) 8 (((64 * 4) + ((x_mi w 10 4) + 1)).toNatClampNeg) 0) 9 (((64 * 4) + ((x_mi w 10 4) + 1)).toNatClampNeg) (-1)) 7 ((x_mc w 7) + 1))) rfl (kp_mc dA (u_mi (u_mi (u_ml (u_mi (u_mi (u_mi (u_mc w 0 0) 3 2 0) 10 4 ((x_mi w 10 4) + 1)) 6 (((64 * 4) + ((x_mi w 10 4) + 1)).toNatClampNeg) 1) 7 (((64 * 4) + ((x_mi w 10 4) + 1)).toNatClampNeg) (f_Model_stateOfBytes (u_mc w 0 0) (x_mi w 3 2).toNatClampNeg)) 8 (((64 * 4) + ((x_mi w 10 4) + 1)).toNatClampNeg) 0) 9 (((64 * 4) + ((x_mi w 10 4) + 1)).toNatClampNeg) (-1)) 7 ((x_mc w 7) + 1)) (fun H locs hW hS => ?_)
      have hW : cm_Wo D dA b0 (u_mc (u_mi (u_mi (u_ml (u_mi (u_mi (u_mi (u_mc w 0 0) 3 2 0) 10 4 ((x_mi w 10 4) + 1)) 6 (((64 * 4) + ((x_mi w 10 4) + 1)).toNatClampNeg) 1) 7 (((64 * 4) + ((x_mi w 10 4) + 1)).toNatClampNeg) (f_Model_stateOfBytes (u_mc w 0 0) (x_mi w 3 2).toNatClampNeg)) 8 (((64 * 4) + ((x_mi w 10 4) + 1)).toNatClampNeg) 0) 9 (((64 * 4) + ((x_mi w 10 4) + 1)).toNatClampNeg) (-1)) 7 ((x_mc w 7) + 1)) H := to_mc hW
      refine lv_aload_n hx hb d_Model_make_283 rfl (lv_at hl 4 rfl) ?_
      refine lv_dup hx hb d_Model_make_284 rfl ?_
      refine cd_get (ci := 4) (C := R_Model) (T := F_Model) (N := 20) (v := .int (x_mc w 8)) hx hb hA i_Model hown hK hW 9 0 rfl rfl rfl 19 (by decide) mw_182 rfl rfl d_Model_make_285 ?_
      refine lv_iconst (v := 1) hx hb d_Model_make_288 (by decide) ?_
      refine lv_iadd hx hb d_Model_make_289 ?_
      refine cd_put (ci := 4) (C := R_Model) (T := F_Model) (N := 20) (v := .int ((x_mc w 8) + 1)) hx hb hA i_Model t_Model t_Model_ok n_Model hown hK hW hS 9 0 rfl rfl rfl 19 (by decide) mw_182 rfl rfl rfl rfl (Nat.le_of_ble_eq_true rfl) d_Model_make_290 (cm_ce dA (u_mc (u_mc (u_mi (u_mi (u_ml (u_mi (u_mi (u_mi (u_mc w 0 0) 3 2 0) 10 4 ((x_mi w 10 4) + 1)) 6 (((64 * 4) + ((x_mi w 10 4) + 1)).toNatClampNeg) 1) 7 (((64 * 4) + ((x_mi w 10 4) + 1)).toNatClampNeg) (f_Model_stateOfBytes (u_mc w 0 0) (x_mi w 3 2).toNatClampNeg)) 8 (((64 * 4) + ((x_mi w 10 4) + 1)).toNatClampNeg) 0) 9 (((64 * 4) + ((x_mi w 10 4) + 1)).toNatClampNeg) (-1)) 7 ((x_mc w 7) + 1)) 8 ((x_mc w 8) + 1))) rfl (kp_mc dA (u_mc (u_mi (u_mi (u_ml (u_mi (u_mi (u_mi (u_mc w 0 0) 3 2 0) 10 4 ((x_mi w 10 4) + 1)) 6 (((64 * 4) + ((x_mi w 10 4) + 1)).toNatClampNeg) 1) 7 (((64 * 4) + ((x_mi w 10 4) + 1)).toNatClampNeg) (f_Model_stateOfBytes (u_mc w 0 0) (x_mi w 3 2).toNatClampNeg)) 8 (((64 * 4) + ((x_mi w 10 4) + 1)).toNatClampNeg) 0) 9 (((64 * 4) + ((x_mi w 10 4) + 1)).toNatClampNeg) (-1)) 7 ((x_mc w 7) + 1)) 8 ((x_mc w 8) + 1)) (fun H locs hW hS => ?_)
      have hW : cm_Wo D dA b0 (u_mc (u_mc (u_mi (u_mi (u_ml (u_mi (u_mi (u_mi (u_mc w 0 0) 3 2 0) 10 4 ((x_mi w 10 4) + 1)) 6 (((64 * 4) + ((x_mi w 10 4) + 1)).toNatClampNeg) 1) 7 (((64 * 4) + ((x_mi w 10 4) + 1)).toNatClampNeg) (f_Model_stateOfBytes (u_mc w 0 0) (x_mi w 3 2).toNatClampNeg)) 8 (((64 * 4) + ((x_mi w 10 4) + 1)).toNatClampNeg) 0) 9 (((64 * 4) + ((x_mi w 10 4) + 1)).toNatClampNeg) (-1)) 7 ((x_mc w 7) + 1)) 8 ((x_mc w 8) + 1)) H := to_mc hW
      refine lv_iload hx hb d_Model_make_293 (lv_at hl 0 rfl) ?_
      have hf : f_Model_make4 w = (((64 * 4) + ((x_mi w 10 4) + 1)), (u_mc (u_mc (u_mi (u_mi (u_ml (u_mi (u_mi (u_mi (u_mc w 0 0) 3 2 0) 10 4 ((x_mi w 10 4) + 1)) 6 (((64 * 4) + ((x_mi w 10 4) + 1)).toNatClampNeg) 1) 7 (((64 * 4) + ((x_mi w 10 4) + 1)).toNatClampNeg) (f_Model_stateOfBytes (u_mc w 0 0) (x_mi w 3 2).toNatClampNeg)) 8 (((64 * 4) + ((x_mi w 10 4) + 1)).toNatClampNeg) 0) 9 (((64 * 4) + ((x_mi w 10 4) + 1)).toNatClampNeg) (-1)) 7 ((x_mc w 7) + 1)) 8 ((x_mc w 8) + 1))) := by
        simp only [f_Model_make4, if_neg c_10, if_neg c_11]
      exact cd_iret hx hb hr hlocks hW hS d_Model_make_295 ⟨by rw [hf], by rw [hf], by rw [hf], by rw [hf]⟩ (Nat.le_of_ble_eq_true rfl) (Nat.le_of_ble_eq_true rfl)
    · skip
      refine lv_aload_n hx hb d_Model_make_119 rfl (lv_at hl 2 rfl) ?_
      refine lv_bipush (v := (-4)) hx hb d_Model_make_120 (by decide) ?_
      refine cm_cV (w0 := (f_Model_refuse (u_mc w 0 0) (-4)).2) (x0 := .int ((f_Model_refuse (u_mc w 0 0) (-4)).1)) (rest := []) (n := 1) ⟨hx, hb, hml, hown, hA⟩ (cd_GA mw_173) hE hb0 hW hS 9 0 rfl rfl rfl (c_Model_refuse l D dA b0 (u_mc w 0 0) (-4)) mw_177 mw_175 mw_176 mw_174 (by decide +kernel) rfl rfl ⟨by decide, by decide⟩ rfl hl.1 rfl (Nat.le_of_ble_eq_true rfl) d_Model_make_122 ⟨by decide, by decide⟩ (fun H locs hW hS => ?_)
      have hf : f_Model_make4 w = ((f_Model_refuse (u_mc w 0 0) (-4)).1, (f_Model_refuse (u_mc w 0 0) (-4)).2) := by
        simp only [f_Model_make4, if_neg c_10, if_pos c_11]
      exact cd_iret hx hb hr hlocks hW hS d_Model_make_125 ⟨by rw [hf], by rw [hf], by rw [hf], by rw [hf]⟩ (Nat.le_of_ble_eq_true rfl) (Nat.le_of_ble_eq_true rfl)
  · skip
    refine lv_goto (tgt := 101) hx hb d_Model_make_94 (by decide) ?_
    refine lv_aload_n hx hb d_Model_make_101 rfl (lv_at hl 2 rfl) ?_
    refine lv_bipush (v := (-3)) hx hb d_Model_make_102 (by decide) ?_
    refine cm_cV (w0 := (f_Model_refuse (u_mc w 0 0) (-3)).2) (x0 := .int ((f_Model_refuse (u_mc w 0 0) (-3)).1)) (rest := []) (n := 1) ⟨hx, hb, hml, hown, hA⟩ (cd_GA mw_173) hE hb0 hW hS 9 0 rfl rfl rfl (c_Model_refuse l D dA b0 (u_mc w 0 0) (-3)) mw_177 mw_175 mw_176 mw_174 (by decide +kernel) rfl rfl ⟨by decide, by decide⟩ rfl hl.1 rfl (Nat.le_of_ble_eq_true rfl) d_Model_make_104 ⟨by decide, by decide⟩ (fun H locs hW hS => ?_)
    have hf : f_Model_make4 w = ((f_Model_refuse (u_mc w 0 0) (-3)).1, (f_Model_refuse (u_mc w 0 0) (-3)).2) := by
      simp only [f_Model_make4, if_pos c_10]
    exact cd_iret hx hb hr hlocks hW hS d_Model_make_107 ⟨by rw [hf], by rw [hf], by rw [hf], by rw [hf]⟩ (Nat.le_of_ble_eq_true rfl) (Nat.le_of_ble_eq_true rfl)

def f_Model_make5 (w : cm_W)  : Int32 × cm_W := if 0 ≤ (f_Model_latest (u_mc w 0 0) 1) then (if (x_mi w 10 5) = 20 then ((f_Model_refuse (u_mc w 0 0) (-4)).1, (f_Model_refuse (u_mc w 0 0) (-4)).2) else (((64 * 5) + ((x_mi ((f_Model_numbers (u_mc w 0 0) 1).2) 10 5) + 1)), (u_mc (u_mc (u_mi (u_mi (u_ml (u_mi (u_mi (f_Model_numbers (u_mc w 0 0) 1).2 10 5 ((x_mi ((f_Model_numbers (u_mc w 0 0) 1).2) 10 5) + 1)) 6 (((64 * 5) + ((x_mi ((f_Model_numbers (u_mc w 0 0) 1).2) 10 5) + 1)).toNatClampNeg) 1) 7 (((64 * 5) + ((x_mi ((f_Model_numbers (u_mc w 0 0) 1).2) 10 5) + 1)).toNatClampNeg) (((f_Model_numbers (u_mc w 0 0) 1).1).toInt64)) 8 (((64 * 5) + ((x_mi ((f_Model_numbers (u_mc w 0 0) 1).2) 10 5) + 1)).toNatClampNeg) 0) 9 (((64 * 5) + ((x_mi ((f_Model_numbers (u_mc w 0 0) 1).2) 10 5) + 1)).toNatClampNeg) (-1)) 7 ((x_mc ((f_Model_numbers (u_mc w 0 0) 1).2) 7) + 1)) 8 ((x_mc ((f_Model_numbers (u_mc w 0 0) 1).2) 8) + 1)))) else ((f_Model_refuse (u_mc w 0 0) (-3)).1, (f_Model_refuse (u_mc w 0 0) (-3)).2)
set_option maxHeartbeats 4000000 in
set_option maxRecDepth 100000 in
theorem c_Model_make5 (l : Launch) (D : va_G) (dA : Nat → ClassId) (b0 : Nat) (w : cm_W) (hco : ∀ t, t < 3 → ∃ c, c ≤ 200 ∧ x_mi w 3 t = nI c) (hma : ∀ k, k < 6 → ∃ c, c ≤ 20 ∧ x_mi w 10 k = nI c) : cd_Ct l D (cx_tys dA) b0 y_Model_make (.code y_Model_make b_Model_make 7 (some .int) :: cd_WA) { frames := 1, cells := 0, slots := 0, locals := 25 } [.ref (m_ad w 9 0), .int 5] (cm_dm w) (m_ad w) (cm_ce dA w) (cm_R dA (some (.int (f_Model_make5 w).1)) (f_Model_make5 w).2) 0 0 := by
  refine cd_Ct.of b_Model_make 7 (some .int) (by decide) rfl ?_
  intro p e s m below meth c hx hb hr hml hown hlocks hnm hA hE hb0 hW hS ls hl
  have hK := hE.1
  have hl : lv_has ls 7 [(0, .ref (m_ad w 9 0)), (1, .int 5)] := hl
  refine lv_aload_n hx hb d_Model_make_0 rfl (lv_at hl 0 rfl) ?_
  refine lv_iconst (v := 0) hx hb d_Model_make_1 (by decide) ?_
  refine cd_put (ci := 4) (C := R_Model) (T := F_Model) (N := 20) (v := .int 0) hx hb hA i_Model t_Model t_Model_ok n_Model hown hK hW hS 9 0 rfl rfl rfl 0 (by decide) mw_172 rfl rfl rfl rfl (Nat.le_of_ble_eq_true rfl) d_Model_make_2 (cm_ce dA (u_mc w 0 0)) rfl (kp_mc dA w 0 0) (fun H locs hW hS => ?_)
  have hW : cm_Wo D dA b0 (u_mc w 0 0) H := to_mc hW
  refine lv_iload_n hx hb d_Model_make_5 rfl (lv_at hl 1 rfl) ?_
  refine lv_if_lt (tgt := 14) hx hb d_Model_make_6 (by decide) (fun c_1 => absurd c_1 (by decide)) (fun _ => ?_)
  refine lv_iload_n hx hb d_Model_make_9 rfl (lv_at hl 1 rfl) ?_
  refine lv_iconst (v := 5) hx hb d_Model_make_10 (by decide) ?_
  refine lv_icmp_le (tgt := 20) hx hb d_Model_make_11 (by decide) (fun _ => ?_) (fun c_2 => absurd (by decide) c_2)
  refine lv_iload_n hx hb d_Model_make_20 rfl (lv_at hl 1 rfl) ?_
  refine lv_if_ne (tgt := 28) hx hb d_Model_make_21 (by decide) (fun _ => ?_) (fun c_3 => absurd c_3 (by decide))
  refine lv_iload_n hx hb d_Model_make_28 rfl (lv_at hl 1 rfl) ?_
  refine lv_iconst (v := 2) hx hb d_Model_make_29 (by decide) ?_
  refine lv_icmp_ne (tgt := 37) hx hb d_Model_make_30 (by decide) (fun _ => ?_) (fun c_4 => absurd c_4 (by decide))
  refine lv_iload_n hx hb d_Model_make_37 rfl (lv_at hl 1 rfl) ?_
  refine lv_iconst (v := 4) hx hb d_Model_make_38 (by decide) ?_
  refine lv_icmp_ne (tgt := 46) hx hb d_Model_make_39 (by decide) (fun _ => ?_) (fun c_5 => absurd c_5 (by decide))
  refine lv_iconst (v := (-1)) hx hb d_Model_make_46 (by decide) ?_
  refine lv_istore_n (lv' := [(2, .int (-1)), (0, .ref (m_ad w 9 0)), (1, .int 5)]) hx hb d_Model_make_47 rfl hl (by decide) rfl (fun ls hl => ?_)
  refine lv_iload_n hx hb d_Model_make_48 rfl (lv_at hl 2 rfl) ?_
  refine lv_iconst (v := 1) hx hb d_Model_make_49 (by decide) ?_
  refine lv_icmp_ne (tgt := 61) hx hb d_Model_make_50 (by decide) (fun _ => ?_) (fun c_6 => absurd c_6 (by decide))
  refine lv_iload_n hx hb d_Model_make_61 rfl (lv_at hl 2 rfl) ?_
  refine lv_iconst (v := 3) hx hb d_Model_make_62 (by decide) ?_
  refine lv_icmp_eq (tgt := 71) hx hb d_Model_make_63 (by decide) (fun c_7 => absurd c_7 (by decide)) (fun _ => ?_)
  refine lv_iload_n hx hb d_Model_make_66 rfl (lv_at hl 2 rfl) ?_
  refine lv_iconst (v := 5) hx hb d_Model_make_67 (by decide) ?_
  refine lv_icmp_ne (tgt := 79) hx hb d_Model_make_68 (by decide) (fun c_8 => absurd (by decide) c_8) (fun _ => ?_)
  refine lv_aload_n hx hb d_Model_make_71 rfl (lv_at hl 1 rfl) ?_
  refine lv_iconst (v := 1) hx hb d_Model_make_72 (by decide) ?_
  refine cm_cV (w0 := (u_mc w 0 0)) (x0 := .int (f_Model_latest (u_mc w 0 0) 1)) (rest := []) (n := 1) ⟨hx, hb, hml, hown, hA⟩ (cd_GA mw_235) hE hb0 hW hS 9 0 rfl rfl rfl (c_Model_latest l D dA b0 (u_mc w 0 0) 1 (by decide)) mw_238 mw_236 mw_237 mw_174 (by decide +kernel) rfl rfl ⟨by decide, by decide⟩ rfl hl.1 rfl (Nat.le_of_ble_eq_true rfl) d_Model_make_73 ⟨by decide, by decide⟩ (fun H locs hW hS => ?_)
  refine lv_goto (tgt := 80) hx hb d_Model_make_76 (by decide) ?_
  refine lv_istore_n (lv' := [(3, .int (f_Model_latest (u_mc w 0 0) 1)), (2, .int (-1)), (0, .ref (m_ad w 9 0)), (1, .int 5)]) hx hb d_Model_make_80 rfl hl (by decide) rfl (fun ls hl => ?_)
  refine lv_iload_n hx hb d_Model_make_81 rfl (lv_at hl 1 rfl) ?_
  refine lv_if_lt (tgt := 97) hx hb d_Model_make_82 (by decide) (fun _ => ?_) (fun c_9 => absurd (by decide) c_9)
  refine lv_iload_n hx hb d_Model_make_97 rfl (lv_at hl 0 rfl) ?_
  refine lv_if_ge (tgt := 108) hx hb d_Model_make_98 (by decide) (fun c_10 => ?_) (fun c_10 => ?_)
  · skip
    refine lv_aload_n hx hb d_Model_make_108 rfl (lv_at hl 2 rfl) ?_
    refine cd_get (ci := 4) (C := R_Model) (T := F_Model) (N := 20) (v := .ref (m_ad w 10 10)) hx hb hA i_Model hown hK hW 9 0 rfl rfl rfl 11 (by decide) mw_230 rfl rfl d_Model_make_109 ?_
    refine lv_iload_n hx hb d_Model_make_112 rfl (lv_at hl 3 rfl) ?_
    refine cd_iald hx hb hK hW 10 10 (show (10 : Nat) < 11 from by decide) 0 rfl rfl (vp_in_nI (n := 5) (by decide) (by decide)) d_Model_make_113 ?_
    rw [show ((5 : Int32)).toNatClampNeg = 5 by decide]
    refine lv_bipush (v := 20) hx hb d_Model_make_114 (by decide) ?_
    refine lv_icmp_ne (tgt := 126) hx hb d_Model_make_116 (by decide) (fun c_11 => ?_) (fun c_11 => ?_)
    · skip
      refine lv_iload_n hx hb d_Model_make_126 rfl (lv_at hl 3 rfl) ?_
      refine lv_if_ne (tgt := 137) hx hb d_Model_make_127 (by decide) (fun _ => ?_) (fun c_12 => absurd c_12 (by decide))
      refine lv_iload_n hx hb d_Model_make_137 rfl (lv_at hl 3 rfl) ?_
      refine lv_iconst (v := 1) hx hb d_Model_make_138 (by decide) ?_
      refine lv_icmp_ne (tgt := 151) hx hb d_Model_make_139 (by decide) (fun _ => ?_) (fun c_13 => absurd c_13 (by decide))
      refine lv_iload_n hx hb d_Model_make_151 rfl (lv_at hl 3 rfl) ?_
      refine lv_iconst (v := 2) hx hb d_Model_make_152 (by decide) ?_
      refine lv_icmp_ne (tgt := 163) hx hb d_Model_make_153 (by decide) (fun _ => ?_) (fun c_14 => absurd c_14 (by decide))
      refine lv_iload_n hx hb d_Model_make_163 rfl (lv_at hl 3 rfl) ?_
      refine lv_iconst (v := 3) hx hb d_Model_make_164 (by decide) ?_
      refine lv_icmp_ne (tgt := 172) hx hb d_Model_make_165 (by decide) (fun _ => ?_) (fun c_15 => absurd c_15 (by decide))
      refine lv_iload_n hx hb d_Model_make_172 rfl (lv_at hl 3 rfl) ?_
      refine lv_iconst (v := 4) hx hb d_Model_make_173 (by decide) ?_
      refine lv_icmp_ne (tgt := 184) hx hb d_Model_make_174 (by decide) (fun _ => ?_) (fun c_16 => absurd c_16 (by decide))
      refine lv_aload_n hx hb d_Model_make_184 rfl (lv_at hl 2 rfl) ?_
      refine lv_iconst (v := 1) hx hb d_Model_make_185 (by decide) ?_
      refine cm_cV (w0 := (f_Model_numbers (u_mc w 0 0) 1).2) (x0 := .int ((f_Model_numbers (u_mc w 0 0) 1).1)) (rest := []) (n := 1) ⟨hx, hb, hml, hown, hA⟩ (cd_GA mw_247) hE hb0 hW hS 9 0 rfl rfl rfl (c_Model_numbers l D dA b0 (u_mc w 0 0) 1 (by decide)) mw_250 mw_248 mw_249 mw_174 (by decide +kernel) rfl rfl ⟨by decide, by decide⟩ rfl hl.1 rfl (Nat.le_of_ble_eq_true rfl) d_Model_make_186 ⟨by decide, by decide⟩ (fun H locs hW hS => ?_)
      refine lv_i2l hx hb d_Model_make_189 rfl ?_
      refine lv_lstore (lv' := [(4, .long (((f_Model_numbers (u_mc w 0 0) 1).1).toInt64)), (3, .int (f_Model_latest (u_mc w 0 0) 1)), (2, .int (-1)), (0, .ref (m_ad w 9 0)), (1, .int 5)]) hx hb d_Model_make_190 hl (by decide) rfl (fun ls hl => ?_)
      refine lv_iload_n hx hb d_Model_make_192 rfl (lv_at hl 2 rfl) ?_
      refine lv_if_lt (tgt := 203) hx hb d_Model_make_193 (by decide) (fun _ => ?_) (fun c_17 => absurd (by decide) c_17)
      refine lv_aload_n hx hb d_Model_make_203 rfl (lv_at hl 3 rfl) ?_
      refine cd_get (ci := 4) (C := R_Model) (T := F_Model) (N := 20) (v := .ref (m_ad w 10 10)) hx hb hA i_Model hown hK hW 9 0 rfl rfl rfl 11 (by decide) mw_230 rfl rfl d_Model_make_204 ?_
      refine lv_iload_n hx hb d_Model_make_207 rfl (lv_at hl 4 rfl) ?_
      refine lv_dup2_11 hx hb d_Model_make_208 rfl rfl ?_
      refine cd_iald hx hb hK hW 10 10 (show (10 : Nat) < 11 from by decide) 0 rfl rfl (vp_in_nI (n := 5) (by decide) (by decide)) d_Model_make_209 ?_
      rw [show ((5 : Int32)).toNatClampNeg = 5 by decide]
      refine lv_iconst (v := 1) hx hb d_Model_make_210 (by decide) ?_
      refine lv_iadd hx hb d_Model_make_211 ?_
      refine cd_iast hx hb hK hW hS 10 10 (show (10 : Nat) < 11 from by decide) 0 rfl rfl (vp_in_nI (n := 5) (by decide) (by decide)) d_Model_make_212 (cm_ce dA (u_mi (f_Model_numbers (u_mc w 0 0) 1).2 10 5 ((x_mi ((f_Model_numbers (u_mc w 0 0) 1).2) 10 5) + 1))) (by rw [show ((5 : Int32)).toNatClampNeg = 5 by decide]; rfl) (kp_mi dA ((f_Model_numbers (u_mc w 0 0) 1).2) 10 5 ((x_mi ((f_Model_numbers (u_mc w 0 0) 1).2) 10 5) + 1)) (fun H locs hW hS => ?_)
      have hW : cm_Wo D dA b0 (u_mi (f_Model_numbers (u_mc w 0 0) 1).2 10 5 ((x_mi ((f_Model_numbers (u_mc w 0 0) 1).2) 10 5) + 1)) H := to_mi hW
      refine lv_bipush (v := 64) hx hb d_Model_make_213 (by decide) ?_
      refine lv_iload_n hx hb d_Model_make_215 rfl (lv_at hl 4 rfl) ?_
      refine lv_imul hx hb d_Model_make_216 ?_
      refine lv_aload_n hx hb d_Model_make_217 rfl (lv_at hl 3 rfl) ?_
      refine cd_get (ci := 4) (C := R_Model) (T := F_Model) (N := 20) (v := .ref (m_ad w 10 10)) hx hb hA i_Model hown hK hW 9 0 rfl rfl rfl 11 (by decide) mw_230 rfl rfl d_Model_make_218 ?_
      refine lv_iload_n hx hb d_Model_make_221 rfl (lv_at hl 4 rfl) ?_
      refine cd_iald hx hb hK hW 10 10 (show (10 : Nat) < 11 from by decide) 0 rfl rfl (vp_in_nI (n := 5) (by decide) (by decide)) d_Model_make_222 ?_
      rw [show ((5 : Int32)).toNatClampNeg = 5 by decide]
      refine lv_iadd hx hb d_Model_make_223 ?_
      refine lv_istore (lv' := [(6, .int ((64 * 5) + ((x_mi ((f_Model_numbers (u_mc w 0 0) 1).2) 10 5) + 1))), (4, .long (((f_Model_numbers (u_mc w 0 0) 1).1).toInt64)), (3, .int (f_Model_latest (u_mc w 0 0) 1)), (2, .int (-1)), (0, .ref (m_ad w 9 0)), (1, .int 5)]) hx hb d_Model_make_224 hl (by decide) rfl (fun ls hl => ?_)
      refine lv_aload_n hx hb d_Model_make_226 rfl (lv_at hl 4 rfl) ?_
      refine cd_get (ci := 4) (C := R_Model) (T := F_Model) (N := 20) (v := .ref (m_ad w 10 6)) hx hb hA i_Model hown hK hW 9 0 rfl rfl rfl 7 (by decide) mw_191 rfl rfl d_Model_make_227 ?_
      refine lv_iload hx hb d_Model_make_230 (lv_at hl 0 rfl) ?_
      refine lv_iconst (v := 1) hx hb d_Model_make_232 (by decide) ?_
      refine cd_zast hx hb hK hW hS 10 6 (show (6 : Nat) < 11 from by decide) 4 rfl rfl (cm_mk (k := 5) (by decide) hma c_11) d_Model_make_233 (cm_ce dA (u_mi (u_mi (f_Model_numbers (u_mc w 0 0) 1).2 10 5 ((x_mi ((f_Model_numbers (u_mc w 0 0) 1).2) 10 5) + 1)) 6 (((64 * 5) + ((x_mi ((f_Model_numbers (u_mc w 0 0) 1).2) 10 5) + 1)).toNatClampNeg) 1)) (by rw [show vp_nar .boolean 1 = 1 by decide]; rfl) (kp_mi dA (u_mi (f_Model_numbers (u_mc w 0 0) 1).2 10 5 ((x_mi ((f_Model_numbers (u_mc w 0 0) 1).2) 10 5) + 1)) 6 (((64 * 5) + ((x_mi ((f_Model_numbers (u_mc w 0 0) 1).2) 10 5) + 1)).toNatClampNeg) 1) (fun H locs hW hS => ?_)
      have hW : cm_Wo D dA b0 (u_mi (u_mi (f_Model_numbers (u_mc w 0 0) 1).2 10 5 ((x_mi ((f_Model_numbers (u_mc w 0 0) 1).2) 10 5) + 1)) 6 (((64 * 5) + ((x_mi ((f_Model_numbers (u_mc w 0 0) 1).2) 10 5) + 1)).toNatClampNeg) 1) H := to_mi hW
      refine lv_aload_n hx hb d_Model_make_234 rfl (lv_at hl 4 rfl) ?_
      refine cd_get (ci := 4) (C := R_Model) (T := F_Model) (N := 20) (v := .ref (m_ad w 10 7)) hx hb hA i_Model hown hK hW 9 0 rfl rfl rfl 8 (by decide) mw_211 rfl rfl d_Model_make_235 ?_
      refine lv_iload hx hb d_Model_make_238 (lv_at hl 0 rfl) ?_
      refine lv_lload hx hb d_Model_make_240 (lv_at hl 1 rfl) ?_
      refine cd_last hx hb hK hW hS 10 7 (show (7 : Nat) < 11 from by decide) 1 rfl rfl (cm_mk (k := 5) (by decide) hma c_11) d_Model_make_242 (cm_ce dA (u_ml (u_mi (u_mi (f_Model_numbers (u_mc w 0 0) 1).2 10 5 ((x_mi ((f_Model_numbers (u_mc w 0 0) 1).2) 10 5) + 1)) 6 (((64 * 5) + ((x_mi ((f_Model_numbers (u_mc w 0 0) 1).2) 10 5) + 1)).toNatClampNeg) 1) 7 (((64 * 5) + ((x_mi ((f_Model_numbers (u_mc w 0 0) 1).2) 10 5) + 1)).toNatClampNeg) (((f_Model_numbers (u_mc w 0 0) 1).1).toInt64))) rfl (kp_ml dA (u_mi (u_mi (f_Model_numbers (u_mc w 0 0) 1).2 10 5 ((x_mi ((f_Model_numbers (u_mc w 0 0) 1).2) 10 5) + 1)) 6 (((64 * 5) + ((x_mi ((f_Model_numbers (u_mc w 0 0) 1).2) 10 5) + 1)).toNatClampNeg) 1) 7 (((64 * 5) + ((x_mi ((f_Model_numbers (u_mc w 0 0) 1).2) 10 5) + 1)).toNatClampNeg) (((f_Model_numbers (u_mc w 0 0) 1).1).toInt64)) (fun H locs hW hS => ?_)
      have hW : cm_Wo D dA b0 (u_ml (u_mi (u_mi (f_Model_numbers (u_mc w 0 0) 1).2 10 5 ((x_mi ((f_Model_numbers (u_mc w 0 0) 1).2) 10 5) + 1)) 6 (((64 * 5) + ((x_mi ((f_Model_numbers (u_mc w 0 0) 1).2) 10 5) + 1)).toNatClampNeg) 1) 7 (((64 * 5) + ((x_mi ((f_Model_numbers (u_mc w 0 0) 1).2) 10 5) + 1)).toNatClampNeg) (((f_Model_numbers (u_mc w 0 0) 1).1).toInt64)) H := to_ml hW
      refine lv_aload_n hx hb d_Model_make_243 rfl (lv_at hl 4 rfl) ?_
      refine cd_get (ci := 4) (C := R_Model) (T := F_Model) (N := 20) (v := .ref (m_ad w 10 8)) hx hb hA i_Model hown hK hW 9 0 rfl rfl rfl 9 (by decide) mw_206 rfl rfl d_Model_make_244 ?_
      refine lv_iload hx hb d_Model_make_247 (lv_at hl 0 rfl) ?_
      refine lv_iconst (v := 0) hx hb d_Model_make_249 (by decide) ?_
      refine cd_iast hx hb hK hW hS 10 8 (show (8 : Nat) < 11 from by decide) 0 rfl rfl (cm_mk (k := 5) (by decide) hma c_11) d_Model_make_250 (cm_ce dA (u_mi (u_ml (u_mi (u_mi (f_Model_numbers (u_mc w 0 0) 1).2 10 5 ((x_mi ((f_Model_numbers (u_mc w 0 0) 1).2) 10 5) + 1)) 6 (((64 * 5) + ((x_mi ((f_Model_numbers (u_mc w 0 0) 1).2) 10 5) + 1)).toNatClampNeg) 1) 7 (((64 * 5) + ((x_mi ((f_Model_numbers (u_mc w 0 0) 1).2) 10 5) + 1)).toNatClampNeg) (((f_Model_numbers (u_mc w 0 0) 1).1).toInt64)) 8 (((64 * 5) + ((x_mi ((f_Model_numbers (u_mc w 0 0) 1).2) 10 5) + 1)).toNatClampNeg) 0)) rfl (kp_mi dA (u_ml (u_mi (u_mi (f_Model_numbers (u_mc w 0 0) 1).2 10 5 ((x_mi ((f_Model_numbers (u_mc w 0 0) 1).2) 10 5) + 1)) 6 (((64 * 5) + ((x_mi ((f_Model_numbers (u_mc w 0 0) 1).2) 10 5) + 1)).toNatClampNeg) 1) 7 (((64 * 5) + ((x_mi ((f_Model_numbers (u_mc w 0 0) 1).2) 10 5) + 1)).toNatClampNeg) (((f_Model_numbers (u_mc w 0 0) 1).1).toInt64)) 8 (((64 * 5) + ((x_mi ((f_Model_numbers (u_mc w 0 0) 1).2) 10 5) + 1)).toNatClampNeg) 0) (fun H locs hW hS => ?_)
      have hW : cm_Wo D dA b0 (u_mi (u_ml (u_mi (u_mi (f_Model_numbers (u_mc w 0 0) 1).2 10 5 ((x_mi ((f_Model_numbers (u_mc w 0 0) 1).2) 10 5) + 1)) 6 (((64 * 5) + ((x_mi ((f_Model_numbers (u_mc w 0 0) 1).2) 10 5) + 1)).toNatClampNeg) 1) 7 (((64 * 5) + ((x_mi ((f_Model_numbers (u_mc w 0 0) 1).2) 10 5) + 1)).toNatClampNeg) (((f_Model_numbers (u_mc w 0 0) 1).1).toInt64)) 8 (((64 * 5) + ((x_mi ((f_Model_numbers (u_mc w 0 0) 1).2) 10 5) + 1)).toNatClampNeg) 0) H := to_mi hW
      refine lv_aload_n hx hb d_Model_make_251 rfl (lv_at hl 4 rfl) ?_
      refine cd_get (ci := 4) (C := R_Model) (T := F_Model) (N := 20) (v := .ref (m_ad w 10 9)) hx hb hA i_Model hown hK hW 9 0 rfl rfl rfl 10 (by decide) mw_200 rfl rfl d_Model_make_252 ?_
      refine lv_iload hx hb d_Model_make_255 (lv_at hl 0 rfl) ?_
      refine lv_iload_n hx hb d_Model_make_257 rfl (lv_at hl 5 rfl) ?_
      refine lv_iconst (v := 1) hx hb d_Model_make_258 (by decide) ?_
      refine lv_icmp_eq (tgt := 267) hx hb d_Model_make_259 (by decide) (fun c_18 => absurd c_18 (by decide)) (fun _ => ?_)
      refine lv_iload_n hx hb d_Model_make_262 rfl (lv_at hl 5 rfl) ?_
      refine lv_iconst (v := 3) hx hb d_Model_make_263 (by decide) ?_
      refine lv_icmp_ne (tgt := 271) hx hb d_Model_make_264 (by decide) (fun _ => ?_) (fun c_19 => absurd c_19 (by decide))
      refine lv_iconst (v := (-1)) hx hb d_Model_make_271 (by decide) ?_
      refine cd_iast hx hb hK hW hS 10 9 (show (9 : Nat) < 11 from by decide) 0 rfl rfl (cm_mk (k := 5) (by decide) hma c_11) d_Model_make_272 (cm_ce dA (u_mi (u_mi (u_ml (u_mi (u_mi (f_Model_numbers (u_mc w 0 0) 1).2 10 5 ((x_mi ((f_Model_numbers (u_mc w 0 0) 1).2) 10 5) + 1)) 6 (((64 * 5) + ((x_mi ((f_Model_numbers (u_mc w 0 0) 1).2) 10 5) + 1)).toNatClampNeg) 1) 7 (((64 * 5) + ((x_mi ((f_Model_numbers (u_mc w 0 0) 1).2) 10 5) + 1)).toNatClampNeg) (((f_Model_numbers (u_mc w 0 0) 1).1).toInt64)) 8 (((64 * 5) + ((x_mi ((f_Model_numbers (u_mc w 0 0) 1).2) 10 5) + 1)).toNatClampNeg) 0) 9 (((64 * 5) + ((x_mi ((f_Model_numbers (u_mc w 0 0) 1).2) 10 5) + 1)).toNatClampNeg) (-1))) rfl (kp_mi dA (u_mi (u_ml (u_mi (u_mi (f_Model_numbers (u_mc w 0 0) 1).2 10 5 ((x_mi ((f_Model_numbers (u_mc w 0 0) 1).2) 10 5) + 1)) 6 (((64 * 5) + ((x_mi ((f_Model_numbers (u_mc w 0 0) 1).2) 10 5) + 1)).toNatClampNeg) 1) 7 (((64 * 5) + ((x_mi ((f_Model_numbers (u_mc w 0 0) 1).2) 10 5) + 1)).toNatClampNeg) (((f_Model_numbers (u_mc w 0 0) 1).1).toInt64)) 8 (((64 * 5) + ((x_mi ((f_Model_numbers (u_mc w 0 0) 1).2) 10 5) + 1)).toNatClampNeg) 0) 9 (((64 * 5) + ((x_mi ((f_Model_numbers (u_mc w 0 0) 1).2) 10 5) + 1)).toNatClampNeg) (-1)) (fun H locs hW hS => ?_)
      have hW : cm_Wo D dA b0 (u_mi (u_mi (u_ml (u_mi (u_mi (f_Model_numbers (u_mc w 0 0) 1).2 10 5 ((x_mi ((f_Model_numbers (u_mc w 0 0) 1).2) 10 5) + 1)) 6 (((64 * 5) + ((x_mi ((f_Model_numbers (u_mc w 0 0) 1).2) 10 5) + 1)).toNatClampNeg) 1) 7 (((64 * 5) + ((x_mi ((f_Model_numbers (u_mc w 0 0) 1).2) 10 5) + 1)).toNatClampNeg) (((f_Model_numbers (u_mc w 0 0) 1).1).toInt64)) 8 (((64 * 5) + ((x_mi ((f_Model_numbers (u_mc w 0 0) 1).2) 10 5) + 1)).toNatClampNeg) 0) 9 (((64 * 5) + ((x_mi ((f_Model_numbers (u_mc w 0 0) 1).2) 10 5) + 1)).toNatClampNeg) (-1)) H := to_mi hW
      refine lv_aload_n hx hb d_Model_make_273 rfl (lv_at hl 4 rfl) ?_
      refine lv_dup hx hb d_Model_make_274 rfl ?_
      refine cd_get (ci := 4) (C := R_Model) (T := F_Model) (N := 20) (v := .int (x_mc ((f_Model_numbers (u_mc w 0 0) 1).2) 7)) hx hb hA i_Model hown hK hW 9 0 rfl rfl rfl 18 (by decide) mw_189 rfl rfl d_Model_make_275 ?_
      refine lv_iconst (v := 1) hx hb d_Model_make_278 (by decide) ?_
      refine lv_iadd hx hb d_Model_make_279 ?_
      refine cd_put (ci := 4) (C := R_Model) (T := F_Model) (N := 20) (v := .int ((x_mc ((f_Model_numbers (u_mc w 0 0) 1).2) 7) + 1)) hx hb hA i_Model t_Model t_Model_ok n_Model hown hK hW hS 9 0 rfl rfl rfl 18 (by decide) mw_189 rfl rfl rfl rfl (Nat.le_of_ble_eq_true rfl) d_Model_make_280 (cm_ce dA (u_mc (u_mi (u_mi (u_ml (u_mi (u_mi (f_Model_numbers (u_mc w 0 0) 1).2 10 5 ((x_mi ((f_Model_numbers (u_mc w 0 0) 1).2) 10 5) + 1)) 6 (((64 * 5) + ((x_mi ((f_Model_numbers (u_mc w 0 0) 1).2) 10 5) + 1)).toNatClampNeg) 1) 7 (((64 * 5) + ((x_mi ((f_Model_numbers (u_mc w 0 0) 1).2) 10 5) + 1)).toNatClampNeg) (((f_Model_numbers (u_mc w 0 0) 1).1).toInt64)) 8 (((64 * 5) + ((x_mi ((f_Model_numbers (u_mc w 0 0) 1).2) 10 5) + 1)).toNatClampNeg) 0) 9 (((64 * 5) + ((x_mi ((f_Model_numbers (u_mc w 0 0) 1).2) 10 5) + 1)).toNatClampNeg) (-1)) 7 ((x_mc ((f_Model_numbers (u_mc w 0 0) 1).2) 7) + 1))) rfl (kp_mc dA (u_mi (u_mi (u_ml (u_mi (u_mi (f_Model_numbers (u_mc w 0 0) 1).2 10 5 ((x_mi ((f_Model_numbers (u_mc w 0 0) 1).2) 10 5) + 1)) 6 (((64 * 5) + ((x_mi ((f_Model_numbers (u_mc w 0 0) 1).2) 10 5) + 1)).toNatClampNeg) 1) 7 (((64 * 5) + ((x_mi ((f_Model_numbers (u_mc w 0 0) 1).2) 10 5) + 1)).toNatClampNeg) (((f_Model_numbers (u_mc w 0 0) 1).1).toInt64)) 8 (((64 * 5) + ((x_mi ((f_Model_numbers (u_mc w 0 0) 1).2) 10 5) + 1)).toNatClampNeg) 0) 9 (((64 * 5) + ((x_mi ((f_Model_numbers (u_mc w 0 0) 1).2) 10 5) + 1)).toNatClampNeg) (-1)) 7 ((x_mc ((f_Model_numbers (u_mc w 0 0) 1).2) 7) + 1)) (fun H locs hW hS => ?_)
      have hW : cm_Wo D dA b0 (u_mc (u_mi (u_mi (u_ml (u_mi (u_mi (f_Model_numbers (u_mc w 0 0) 1).2 10 5 ((x_mi ((f_Model_numbers (u_mc w 0 0) 1).2) 10 5) + 1)) 6 (((64 * 5) + ((x_mi ((f_Model_numbers (u_mc w 0 0) 1).2) 10 5) + 1)).toNatClampNeg) 1) 7 (((64 * 5) + ((x_mi ((f_Model_numbers (u_mc w 0 0) 1).2) 10 5) + 1)).toNatClampNeg) (((f_Model_numbers (u_mc w 0 0) 1).1).toInt64)) 8 (((64 * 5) + ((x_mi ((f_Model_numbers (u_mc w 0 0) 1).2) 10 5) + 1)).toNatClampNeg) 0) 9 (((64 * 5) + ((x_mi ((f_Model_numbers (u_mc w 0 0) 1).2) 10 5) + 1)).toNatClampNeg) (-1)) 7 ((x_mc ((f_Model_numbers (u_mc w 0 0) 1).2) 7) + 1)) H := to_mc hW
      refine lv_aload_n hx hb d_Model_make_283 rfl (lv_at hl 4 rfl) ?_
      refine lv_dup hx hb d_Model_make_284 rfl ?_
      refine cd_get (ci := 4) (C := R_Model) (T := F_Model) (N := 20) (v := .int (x_mc ((f_Model_numbers (u_mc w 0 0) 1).2) 8)) hx hb hA i_Model hown hK hW 9 0 rfl rfl rfl 19 (by decide) mw_182 rfl rfl d_Model_make_285 ?_
      refine lv_iconst (v := 1) hx hb d_Model_make_288 (by decide) ?_
      refine lv_iadd hx hb d_Model_make_289 ?_
      refine cd_put (ci := 4) (C := R_Model) (T := F_Model) (N := 20) (v := .int ((x_mc ((f_Model_numbers (u_mc w 0 0) 1).2) 8) + 1)) hx hb hA i_Model t_Model t_Model_ok n_Model hown hK hW hS 9 0 rfl rfl rfl 19 (by decide) mw_182 rfl rfl rfl rfl (Nat.le_of_ble_eq_true rfl) d_Model_make_290 (cm_ce dA (u_mc (u_mc (u_mi (u_mi (u_ml (u_mi (u_mi (f_Model_numbers (u_mc w 0 0) 1).2 10 5 ((x_mi ((f_Model_numbers (u_mc w 0 0) 1).2) 10 5) + 1)) 6 (((64 * 5) + ((x_mi ((f_Model_numbers (u_mc w 0 0) 1).2) 10 5) + 1)).toNatClampNeg) 1) 7 (((64 * 5) + ((x_mi ((f_Model_numbers (u_mc w 0 0) 1).2) 10 5) + 1)).toNatClampNeg) (((f_Model_numbers (u_mc w 0 0) 1).1).toInt64)) 8 (((64 * 5) + ((x_mi ((f_Model_numbers (u_mc w 0 0) 1).2) 10 5) + 1)).toNatClampNeg) 0) 9 (((64 * 5) + ((x_mi ((f_Model_numbers (u_mc w 0 0) 1).2) 10 5) + 1)).toNatClampNeg) (-1)) 7 ((x_mc ((f_Model_numbers (u_mc w 0 0) 1).2) 7) + 1)) 8 ((x_mc ((f_Model_numbers (u_mc w 0 0) 1).2) 8) + 1))) rfl (kp_mc dA (u_mc (u_mi (u_mi (u_ml (u_mi (u_mi (f_Model_numbers (u_mc w 0 0) 1).2 10 5 ((x_mi ((f_Model_numbers (u_mc w 0 0) 1).2) 10 5) + 1)) 6 (((64 * 5) + ((x_mi ((f_Model_numbers (u_mc w 0 0) 1).2) 10 5) + 1)).toNatClampNeg) 1) 7 (((64 * 5) + ((x_mi ((f_Model_numbers (u_mc w 0 0) 1).2) 10 5) + 1)).toNatClampNeg) (((f_Model_numbers (u_mc w 0 0) 1).1).toInt64)) 8 (((64 * 5) + ((x_mi ((f_Model_numbers (u_mc w 0 0) 1).2) 10 5) + 1)).toNatClampNeg) 0) 9 (((64 * 5) + ((x_mi ((f_Model_numbers (u_mc w 0 0) 1).2) 10 5) + 1)).toNatClampNeg) (-1)) 7 ((x_mc ((f_Model_numbers (u_mc w 0 0) 1).2) 7) + 1)) 8 ((x_mc ((f_Model_numbers (u_mc w 0 0) 1).2) 8) + 1)) (fun H locs hW hS => ?_)
      have hW : cm_Wo D dA b0 (u_mc (u_mc (u_mi (u_mi (u_ml (u_mi (u_mi (f_Model_numbers (u_mc w 0 0) 1).2 10 5 ((x_mi ((f_Model_numbers (u_mc w 0 0) 1).2) 10 5) + 1)) 6 (((64 * 5) + ((x_mi ((f_Model_numbers (u_mc w 0 0) 1).2) 10 5) + 1)).toNatClampNeg) 1) 7 (((64 * 5) + ((x_mi ((f_Model_numbers (u_mc w 0 0) 1).2) 10 5) + 1)).toNatClampNeg) (((f_Model_numbers (u_mc w 0 0) 1).1).toInt64)) 8 (((64 * 5) + ((x_mi ((f_Model_numbers (u_mc w 0 0) 1).2) 10 5) + 1)).toNatClampNeg) 0) 9 (((64 * 5) + ((x_mi ((f_Model_numbers (u_mc w 0 0) 1).2) 10 5) + 1)).toNatClampNeg) (-1)) 7 ((x_mc ((f_Model_numbers (u_mc w 0 0) 1).2) 7) + 1)) 8 ((x_mc ((f_Model_numbers (u_mc w 0 0) 1).2) 8) + 1)) H := to_mc hW
      refine lv_iload hx hb d_Model_make_293 (lv_at hl 0 rfl) ?_
      have hf : f_Model_make5 w = (((64 * 5) + ((x_mi ((f_Model_numbers (u_mc w 0 0) 1).2) 10 5) + 1)), (u_mc (u_mc (u_mi (u_mi (u_ml (u_mi (u_mi (f_Model_numbers (u_mc w 0 0) 1).2 10 5 ((x_mi ((f_Model_numbers (u_mc w 0 0) 1).2) 10 5) + 1)) 6 (((64 * 5) + ((x_mi ((f_Model_numbers (u_mc w 0 0) 1).2) 10 5) + 1)).toNatClampNeg) 1) 7 (((64 * 5) + ((x_mi ((f_Model_numbers (u_mc w 0 0) 1).2) 10 5) + 1)).toNatClampNeg) (((f_Model_numbers (u_mc w 0 0) 1).1).toInt64)) 8 (((64 * 5) + ((x_mi ((f_Model_numbers (u_mc w 0 0) 1).2) 10 5) + 1)).toNatClampNeg) 0) 9 (((64 * 5) + ((x_mi ((f_Model_numbers (u_mc w 0 0) 1).2) 10 5) + 1)).toNatClampNeg) (-1)) 7 ((x_mc ((f_Model_numbers (u_mc w 0 0) 1).2) 7) + 1)) 8 ((x_mc ((f_Model_numbers (u_mc w 0 0) 1).2) 8) + 1))) := by
        simp only [f_Model_make5, if_pos c_10, if_neg c_11]
      exact cd_iret hx hb hr hlocks hW hS d_Model_make_295 ⟨by rw [hf], by rw [hf], by rw [hf], by rw [hf]⟩ (Nat.le_of_ble_eq_true rfl) (Nat.le_of_ble_eq_true rfl)
    · skip
      refine lv_aload_n hx hb d_Model_make_119 rfl (lv_at hl 2 rfl) ?_
      refine lv_bipush (v := (-4)) hx hb d_Model_make_120 (by decide) ?_
      refine cm_cV (w0 := (f_Model_refuse (u_mc w 0 0) (-4)).2) (x0 := .int ((f_Model_refuse (u_mc w 0 0) (-4)).1)) (rest := []) (n := 1) ⟨hx, hb, hml, hown, hA⟩ (cd_GA mw_173) hE hb0 hW hS 9 0 rfl rfl rfl (c_Model_refuse l D dA b0 (u_mc w 0 0) (-4)) mw_177 mw_175 mw_176 mw_174 (by decide +kernel) rfl rfl ⟨by decide, by decide⟩ rfl hl.1 rfl (Nat.le_of_ble_eq_true rfl) d_Model_make_122 ⟨by decide, by decide⟩ (fun H locs hW hS => ?_)
      have hf : f_Model_make5 w = ((f_Model_refuse (u_mc w 0 0) (-4)).1, (f_Model_refuse (u_mc w 0 0) (-4)).2) := by
        simp only [f_Model_make5, if_pos c_10, if_pos c_11]
      exact cd_iret hx hb hr hlocks hW hS d_Model_make_125 ⟨by rw [hf], by rw [hf], by rw [hf], by rw [hf]⟩ (Nat.le_of_ble_eq_true rfl) (Nat.le_of_ble_eq_true rfl)
  · skip
    refine lv_aload_n hx hb d_Model_make_101 rfl (lv_at hl 2 rfl) ?_
    refine lv_bipush (v := (-3)) hx hb d_Model_make_102 (by decide) ?_
    refine cm_cV (w0 := (f_Model_refuse (u_mc w 0 0) (-3)).2) (x0 := .int ((f_Model_refuse (u_mc w 0 0) (-3)).1)) (rest := []) (n := 1) ⟨hx, hb, hml, hown, hA⟩ (cd_GA mw_173) hE hb0 hW hS 9 0 rfl rfl rfl (c_Model_refuse l D dA b0 (u_mc w 0 0) (-3)) mw_177 mw_175 mw_176 mw_174 (by decide +kernel) rfl rfl ⟨by decide, by decide⟩ rfl hl.1 rfl (Nat.le_of_ble_eq_true rfl) d_Model_make_104 ⟨by decide, by decide⟩ (fun H locs hW hS => ?_)
    have hf : f_Model_make5 w = ((f_Model_refuse (u_mc w 0 0) (-3)).1, (f_Model_refuse (u_mc w 0 0) (-3)).2) := by
      simp only [f_Model_make5, if_neg c_10]
    exact cd_iret hx hb hr hlocks hW hS d_Model_make_107 ⟨by rw [hf], by rw [hf], by rw [hf], by rw [hf]⟩ (Nat.le_of_ble_eq_true rfl) (Nat.le_of_ble_eq_true rfl)

def f_Model_makeR (w : cm_W) (x : Int32) : Int32 × cm_W := if x < 0 then ((f_Model_refuse (u_mc w 0 0) (-1)).1, (f_Model_refuse (u_mc w 0 0) (-1)).2) else ((f_Model_refuse (u_mc w 0 0) (-1)).1, (f_Model_refuse (u_mc w 0 0) (-1)).2)
set_option maxHeartbeats 4000000 in
set_option maxRecDepth 100000 in
theorem c_Model_makeR (l : Launch) (D : va_G) (dA : Nat → ClassId) (b0 : Nat) (w : cm_W) (x : Int32) (hk : ¬ vp_in x 6) : cd_Ct l D (cx_tys dA) b0 y_Model_make (.code y_Model_make b_Model_make 7 (some .int) :: cd_WA) { frames := 1, cells := 0, slots := 0, locals := 25 } [.ref (m_ad w 9 0), .int x] (cm_dm w) (m_ad w) (cm_ce dA w) (cm_R dA (some (.int (f_Model_makeR w x).1)) (f_Model_makeR w x).2) 0 0 := by
  refine cd_Ct.of b_Model_make 7 (some .int) (by decide) rfl ?_
  intro p e s m below meth c hx hb hr hml hown hlocks hnm hA hE hb0 hW hS ls hl
  have hK := hE.1
  have hl : lv_has ls 7 [(0, .ref (m_ad w 9 0)), (1, .int x)] := hl
  refine lv_aload_n hx hb d_Model_make_0 rfl (lv_at hl 0 rfl) ?_
  refine lv_iconst (v := 0) hx hb d_Model_make_1 (by decide) ?_
  refine cd_put (ci := 4) (C := R_Model) (T := F_Model) (N := 20) (v := .int 0) hx hb hA i_Model t_Model t_Model_ok n_Model hown hK hW hS 9 0 rfl rfl rfl 0 (by decide) mw_172 rfl rfl rfl rfl (Nat.le_of_ble_eq_true rfl) d_Model_make_2 (cm_ce dA (u_mc w 0 0)) rfl (kp_mc dA w 0 0) (fun H locs hW hS => ?_)
  have hW : cm_Wo D dA b0 (u_mc w 0 0) H := to_mc hW
  refine lv_iload_n hx hb d_Model_make_5 rfl (lv_at hl 1 rfl) ?_
  refine lv_if_lt (tgt := 14) hx hb d_Model_make_6 (by decide) (fun c_1 => ?_) (fun c_1 => ?_)
  · skip
    refine lv_aload_n hx hb d_Model_make_14 rfl (lv_at hl 0 rfl) ?_
    refine lv_iconst (v := (-1)) hx hb d_Model_make_15 (by decide) ?_
    refine cm_cV (w0 := (f_Model_refuse (u_mc w 0 0) (-1)).2) (x0 := .int ((f_Model_refuse (u_mc w 0 0) (-1)).1)) (rest := []) (n := 1) ⟨hx, hb, hml, hown, hA⟩ (cd_GA mw_173) hE hb0 hW hS 9 0 rfl rfl rfl (c_Model_refuse l D dA b0 (u_mc w 0 0) (-1)) mw_177 mw_175 mw_176 mw_174 (by decide +kernel) rfl rfl ⟨by decide, by decide⟩ rfl hl.1 rfl (Nat.le_of_ble_eq_true rfl) d_Model_make_16 ⟨by decide, by decide⟩ (fun H locs hW hS => ?_)
    have hf : f_Model_makeR w x = ((f_Model_refuse (u_mc w 0 0) (-1)).1, (f_Model_refuse (u_mc w 0 0) (-1)).2) := by
      simp only [f_Model_makeR, if_pos c_1]
    exact cd_iret hx hb hr hlocks hW hS d_Model_make_19 ⟨by rw [hf], by rw [hf], by rw [hf], by rw [hf]⟩ (Nat.le_of_ble_eq_true rfl) (Nat.le_of_ble_eq_true rfl)
  · skip
    refine lv_iload_n hx hb d_Model_make_9 rfl (lv_at hl 1 rfl) ?_
    refine lv_iconst (v := 5) hx hb d_Model_make_10 (by decide) ?_
    refine lv_icmp_le (tgt := 20) hx hb d_Model_make_11 (by decide) (fun c_2 => ?_) (fun c_2 => ?_)
    · skip
      exact absurd c_2 (fun q => hk (cm_in5 c_1 q))
    · skip
      refine lv_aload_n hx hb d_Model_make_14 rfl (lv_at hl 0 rfl) ?_
      refine lv_iconst (v := (-1)) hx hb d_Model_make_15 (by decide) ?_
      refine cm_cV (w0 := (f_Model_refuse (u_mc w 0 0) (-1)).2) (x0 := .int ((f_Model_refuse (u_mc w 0 0) (-1)).1)) (rest := []) (n := 1) ⟨hx, hb, hml, hown, hA⟩ (cd_GA mw_173) hE hb0 hW hS 9 0 rfl rfl rfl (c_Model_refuse l D dA b0 (u_mc w 0 0) (-1)) mw_177 mw_175 mw_176 mw_174 (by decide +kernel) rfl rfl ⟨by decide, by decide⟩ rfl hl.1 rfl (Nat.le_of_ble_eq_true rfl) d_Model_make_16 ⟨by decide, by decide⟩ (fun H locs hW hS => ?_)
      have hf : f_Model_makeR w x = ((f_Model_refuse (u_mc w 0 0) (-1)).1, (f_Model_refuse (u_mc w 0 0) (-1)).2) := by
        simp only [f_Model_makeR, if_neg c_1]
      exact cd_iret hx hb hr hlocks hW hS d_Model_make_19 ⟨by rw [hf], by rw [hf], by rw [hf], by rw [hf]⟩ (Nat.le_of_ble_eq_true rfl) (Nat.le_of_ble_eq_true rfl)

