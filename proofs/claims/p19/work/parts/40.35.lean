theorem dX11_town_0 : decode cX11_town 0 = .ok (.iload_n 1, 1) := by decide +kernel
theorem dX11_town_1 : decode cX11_town 1 = .ok (.ifCond .lt 11, 3) := by decide +kernel
theorem dX11_town_12 : decode cX11_town 12 = .ok (.new 101, 3) := by decide +kernel
theorem dX11_town_15 : decode cX11_town 15 = .ok (.dup, 1) := by decide +kernel
theorem dX11_town_16 : decode cX11_town 16 = .ok (.ldc 103, 2) := by decide +kernel
theorem dX11_town_18 : decode cX11_town 18 = .ok (.invokespecial 105, 3) := by decide +kernel
theorem dX11_town_21 : decode cX11_town 21 = .ok (.athrow, 1) := by decide +kernel
theorem dX11_town_22 : decode cX11_town 22 = .ok (.aload_n 0, 1) := by decide +kernel
theorem dX11_town_23 : decode cX11_town 23 = .ok (.getfield 25, 3) := by decide +kernel
theorem dX11_town_26 : decode cX11_town 26 = .ok (.iload_n 1, 1) := by decide +kernel
theorem dX11_town_27 : decode cX11_town 27 = .ok (.invokevirtual 108, 3) := by decide +kernel
theorem dX11_town_30 : decode cX11_town 30 = .ok (.aload_n 0, 1) := by decide +kernel
theorem dX11_town_31 : decode cX11_town 31 = .ok (.iconst 0, 1) := by decide +kernel
theorem dX11_town_32 : decode cX11_town 32 = .ok (.putfield 93, 3) := by decide +kernel
theorem dX11_town_35 : decode cX11_town 35 = .ok (.aload_n 0, 1) := by decide +kernel
theorem dX11_town_36 : decode cX11_town 36 = .ok (.getfield 25, 3) := by decide +kernel
theorem dX11_town_39 : decode cX11_town 39 = .ok (.getfield 111, 3) := by decide +kernel
theorem dX11_town_4 : decode cX11_town 4 = .ok (.iload_n 1, 1) := by decide +kernel
theorem dX11_town_42 : decode cX11_town 42 = .ok (.ifCond .eq 14, 3) := by decide +kernel
theorem dX11_town_45 : decode cX11_town 45 = .ok (.bipush (-10), 2) := by decide +kernel
theorem dX11_town_47 : decode cX11_town 47 = .ok (.aload_n 0, 1) := by decide +kernel
theorem dX11_town_48 : decode cX11_town 48 = .ok (.getfield 25, 3) := by decide +kernel
theorem dX11_town_5 : decode cX11_town 5 = .ok (.aload_n 0, 1) := by decide +kernel
theorem dX11_town_51 : decode cX11_town 51 = .ok (.getfield 111, 3) := by decide +kernel
theorem dX11_town_54 : decode cX11_town 54 = .ok (.isub, 1) := by decide +kernel
theorem dX11_town_55 : decode cX11_town 55 = .ok (.ireturn, 1) := by decide +kernel
theorem dX11_town_56 : decode cX11_town 56 = .ok (.aload_n 0, 1) := by decide +kernel
theorem dX11_town_57 : decode cX11_town 57 = .ok (.getfield 16, 3) := by decide +kernel
theorem dX11_town_6 : decode cX11_town 6 = .ok (.getfield 93, 3) := by decide +kernel
theorem dX11_town_60 : decode cX11_town 60 = .ok (.aload_n 0, 1) := by decide +kernel
theorem dX11_town_61 : decode cX11_town 61 = .ok (.getfield 25, 3) := by decide +kernel
theorem dX11_town_64 : decode cX11_town 64 = .ok (.getfield 114, 3) := by decide +kernel
theorem dX11_town_67 : decode cX11_town 67 = .ok (.invokevirtual 117, 3) := by decide +kernel
theorem dX11_town_70 : decode cX11_town 70 = .ok (.aload_n 0, 1) := by decide +kernel
theorem dX11_town_71 : decode cX11_town 71 = .ok (.getfield 34, 3) := by decide +kernel
theorem dX11_town_74 : decode cX11_town 74 = .ok (.invokevirtual 120, 3) := by decide +kernel
theorem dX11_town_77 : decode cX11_town 77 = .ok (.aload_n 0, 1) := by decide +kernel
theorem dX11_town_78 : decode cX11_town 78 = .ok (.getfield 41, 3) := by decide +kernel
theorem dX11_town_81 : decode cX11_town 81 = .ok (.invokevirtual 123, 3) := by decide +kernel
theorem dX11_town_84 : decode cX11_town 84 = .ok (.aload_n 0, 1) := by decide +kernel
theorem dX11_town_85 : decode cX11_town 85 = .ok (.getfield 16, 3) := by decide +kernel
theorem dX11_town_88 : decode cX11_town 88 = .ok (.getfield 126, 3) := by decide +kernel
theorem dX11_town_9 : decode cX11_town 9 = .ok (.if_icmp .le 13, 3) := by decide +kernel
theorem dX11_town_91 : decode cX11_town 91 = .ok (.ireturn, 1) := by decide +kernel
def ansC (A : Tn) : Int := if s_fl A.1 = 0 then d_l A.2 else wr (-10 - s_fl A.1)
set_option maxRecDepth 4000 in
theorem k_X11_town (l : Launch) (hlT : l.stackTraces = false) (M : Mem) (hJ : Iw M) (x0 : Int) (hx0a : (-2147483648) ≤ x0) (hx0b : x0 ≤ 2147483647) : CIX l yX11_town cX11_town 2 (some .int) 76 1 (fun ad => [.ref (ad 0), ii x0]) M (fun z M' => ((-2147483648) ≤ z ∧ z ≤ 2147483647) ∧ Fr [0, 2, 3, 4, 5, 6, 7, 8, 9, 10, 11, 12, 13, 14, 15, 16, 17, 18, 19, 20, 21, 22, 23, 24, 25, 26, 27, 28, 29, 30, 31, 32, 35, 36, 37, 38, 39, 40, 200] M M' ∧ (0 ≤ x0 ∧ x0 ≤ M 0 1 ∧ M' 0 1 = 0) ∧ (z = ansC (townF (UTC M x0) x0) ∧ M' 18 1 = s_fl (townF (UTC M x0) x0).1 ∧ M' 18 2 = fpC (townF (UTC M x0) x0) ∧ TwC (townF (UTC M x0) x0) M M' ∧ Im (s_fl (townF (UTC M x0) x0).1 = 0) (gW 2 M'))) (fun E M' => (E = "java/lang/IllegalArgumentException" ∧ ((x0 < 0 ∨ M 0 1 < x0) ∧ M' = M) ∧ Fr [0, 2, 3, 4, 5, 6, 7, 8, 9, 10, 11, 12, 13, 14, 15, 16, 17, 18, 19, 20, 21, 22, 23, 24, 25, 26, 27, 28, 29, 30, 31, 32, 35, 36, 37, 38, 39, 40, 200] M M')) := by
  obtain ⟨hI, hW⟩ := hJ
  have hF : Fr [0, 2, 3, 4, 5, 6, 7, 8, 9, 10, 11, 12, 13, 14, 15, 16, 17, 18, 19, 20, 21, 22, 23, 24, 25, 26, 27, 28, 29, 30, 31, 32, 35, 36, 37, 38, 39, 40, 200] M M := Fr.rf
  refine enx_i (by decide +kernel) (fun ad => by exact Nat.le_of_ble_eq_true rfl) (fun D cy ad A p e s m args below meth c Q F hQ hr hlk hex => ?_)
  refine z_eq (ls' := [(0, .ref (ad 0)), (1, ii x0)]) rfl rfl rfl ?_
  obtain ⟨u1, eu1⟩ : ∃ v : Int, v = M 0 1 := ⟨_, rfl⟩
  have ku1 : 0 ≤ u1 ∧ u1 ≤ 900 := by have := hI.at (show Bd 0 1 = (0, 900) from rfl); omega
  refine z_iload_n F dX11_town_0 rfl (q := 1) rfl ?_
  refine z_if_lt (tgt := 12) F dX11_town_1 (by decide +kernel) (by omega) (fun c2 => ?_) (fun c2 => ?_)
  · exact z_thrS (cls := "java/lang/IllegalArgumentException") (names := ["java/lang/RuntimeException", "java/lang/Exception"]) (j := 0) F hlT hQ hlk hex (by decide +kernel) (by decide +kernel) (by decide) (gin lm_360 rfl) (gin lm_361 rfl) at_X11_105 bad_X11_105 (by decide +kernel) ot_X11_105 rfl rfl rfl dX11_town_12 dX11_town_15 dX11_town_16 dX11_town_18 dX11_town_21 ⟨by decide, by decide⟩ (Nat.le_of_ble_eq_true rfl) ⟨hI, hW⟩ (⟨rfl, ⟨by omega, rfl⟩, hF⟩)
  · refine z_iload_n F dX11_town_4 rfl (q := 1) rfl ?_
    refine z_aload_n F dX11_town_5 rfl (q := 0) rfl ?_
    refine gf_X11_93 F hI gs_0 rfl bd_0_1 dX11_town_6 (fun v3 ev3 av3 bv3 => ?_)
    have zv3 : u1 = v3 := eu1.trans ev3.symm
    subst zv3
    refine z_icmp_le (tgt := 22) F dX11_town_9 (by decide +kernel) (by omega) (by omega) (fun c4 => ?_) (fun c4 => ?_)
    · refine z_aload_n F dX11_town_22 rfl (q := 0) rfl ?_
      refine rf_X11_25 F gs_0 rfl dX11_town_23 ?_
      refine z_iload_n F dX11_town_26 rfl (q := 1) rfl ?_
      refine zw_v (rest := []) F (kp_X6_read_18 l M ⟨hI, hW⟩ x0 (by omega) (by omega)) cs_X11_108 (T := TX6) (N := 9) (ci := 6) rfl gs_18 (by decide) (by decide) ⟨by decide, by decide⟩ rfl rfl rfl (Nat.le_of_ble_eq_true rfl) dX11_town_27 (fun M5 hI p6 => ?_)
      obtain ⟨hI, hW⟩ := hI
      obtain ⟨fp6, yp6⟩ := p6
      have hF := hF.call fp6 (by decide)
      have tM5_2_0 : M5 2 0 = M 2 0 := fp6.at (by decide)
      obtain ⟨yp6, zgp6⟩ := yp6
      have hIr := hI
      refine z_aload_n F dX11_town_30 rfl (q := 0) rfl ?_
      refine z_iconst F dX11_town_31 ?_
      refine pf_X11_93 F hI gs_0 rfl bd_0_1 rfl rfl dX11_town_32 (by omega) (by omega) (fun M8 hI sf7 f7 => ?_)
      have tM8_18_1 : M8 18 1 = M5 18 1 := f7 18 1 (fun q => absurd q.1 (by decide))
      have tM8_18_2 : M8 18 2 = M5 18 2 := f7 18 2 (fun q => absurd q.1 (by decide))
      have tM8_19_0 : M8 19 0 = M5 19 0 := f7 19 0 (fun q => absurd q.1 (by decide))
      have tM8_2_0 : M8 2 0 = M5 2 0 := f7 2 0 (fun q => absurd q.1 (by decide))
      have hF := hF.wrz f7 (by decide) (by decide)
      have hW : WFk M8 := hW.site f7 (by decide)
      refine z_aload_n F dX11_town_35 rfl (q := 0) rfl ?_
      refine rf_X11_25 F gs_0 rfl dX11_town_36 ?_
      refine gf_X11_111 F hI gs_18 rfl bd_18_1 dX11_town_39 (fun v9 ev9 av9 bv9 => ?_)
      refine z_if_eq (tgt := 56) F dX11_town_42 (by decide +kernel) (by omega) (fun c10 => ?_) (fun c10 => ?_)
      · refine z_aload_n F dX11_town_56 rfl (q := 0) rfl ?_
        refine rf_X11_16 F gs_0 rfl dX11_town_57 ?_
        refine z_aload_n F dX11_town_60 rfl (q := 0) rfl ?_
        refine rf_X11_25 F gs_0 rfl dX11_town_61 ?_
        refine rf_X11_114 F gs_18 rfl dX11_town_64 ?_
        refine zw_v (rest := []) F (k_X9_copyFrom_2_19 l M8 ⟨hI, hW⟩) cs_X11_117 (T := TX9) (N := 18) (ci := 9) rfl gs_2 (by decide) (by decide) ⟨by decide, by decide⟩ rfl rfl rfl (Nat.le_of_ble_eq_true rfl) dX11_town_67 (fun M11 hI p12 => ?_)
        obtain ⟨hI, hW⟩ := hI
        obtain ⟨fp12, xp12, yp12⟩ := p12
        have hF := hF.call fp12 (by decide)
        have tM11_18_1 : M11 18 1 = M8 18 1 := fp12.at (by decide)
        have tM11_18_2 : M11 18 2 = M8 18 2 := fp12.at (by decide)
        have tM11_19_0 : M11 19 0 = M8 19 0 := fp12.at (by decide)
        refine z_aload_n F dX11_town_70 rfl (q := 0) rfl ?_
        refine rf_X11_34 F gs_0 rfl dX11_town_71 ?_
        refine zw_v (rest := []) F (k_X7_settleIn_35 l M11 ⟨hI, hW⟩) cs_X11_120 (T := TX7) (N := 7) (ci := 7) rfl gs_35 (by decide) (by decide) ⟨by decide, by decide⟩ rfl rfl rfl (Nat.le_of_ble_eq_true rfl) dX11_town_74 (fun M13 hI p14 => ?_)
        obtain ⟨hI, hW⟩ := hI
        have fp14 := p14
        have hF := hF.call fp14 (by decide)
        have tM13_18_1 : M13 18 1 = M11 18 1 := fp14.at (by decide)
        have tM13_18_2 : M13 18 2 = M11 18 2 := fp14.at (by decide)
        have tM13_19_0 : M13 19 0 = M11 19 0 := fp14.at (by decide)
        have tM13_2_0 : M13 2 0 = M11 2 0 := fp14.at (by decide)
        refine z_aload_n F dX11_town_77 rfl (q := 0) rfl ?_
        refine rf_X11_41 F gs_0 rfl dX11_town_78 ?_
        refine zw_v (rest := []) F (k_X4_forget_40 l M13 ⟨hI, hW⟩) cs_X11_123 (T := TX4) (N := 3) (ci := 4) rfl gs_40 (by decide) (by decide) ⟨by decide, by decide⟩ rfl rfl rfl (Nat.le_of_ble_eq_true rfl) dX11_town_81 (fun M15 hI p16 => ?_)
        obtain ⟨hI, hW⟩ := hI
        have fp16 := p16
        have hF := hF.call fp16 (by decide)
        have tM15_18_1 : M15 18 1 = M13 18 1 := fp16.at (by decide)
        have tM15_18_2 : M15 18 2 = M13 18 2 := fp16.at (by decide)
        have tM15_19_0 : M15 19 0 = M13 19 0 := fp16.at (by decide)
        have tM15_2_0 : M15 2 0 = M13 2 0 := fp16.at (by decide)
        refine z_aload_n F dX11_town_84 rfl (q := 0) rfl ?_
        refine rf_X11_16 F gs_0 rfl dX11_town_85 ?_
        refine gf_X11_126 F hI gs_2 rfl bd_2_0 dX11_town_88 (fun v17 ev17 av17 bv17 => ?_)
        have q18 : 0 = M11 0 1 := sf7.symm.trans ((fp12.at (by decide)) : M11 0 1 = _).symm
        have q19 : 0 = M13 0 1 := q18.trans ((fp14.at (by decide)) : M13 0 1 = _).symm
        have q20 : 0 = M15 0 1 := q19.trans ((fp16.at (by decide)) : M15 0 1 = _).symm
        have e18 : M15 18 2 = M5 18 2 := ((fp16.at (by decide) : M15 18 2 = _).trans ((fp14.at (by decide) : M13 18 2 = _).trans ((fp12.at (by decide) : M11 18 2 = _).trans (f7 18 2 (fun q => absurd q.1 (by decide))))))
        have e18b : M15 18 1 = M5 18 1 := ((fp16.at (by decide) : M15 18 1 = _).trans ((fp14.at (by decide) : M13 18 1 = _).trans ((fp12.at (by decide) : M11 18 1 = _).trans (f7 18 1 (fun q => absurd q.1 (by decide))))))
        exact zxr_i F hQ hr hlk dX11_town_91 ⟨by decide, by decide⟩ (by omega) ⟨hI, hW⟩ ⟨⟨by omega, by omega⟩, hF, (by omega), ⟨by rw [← yp6]; unfold ansC; rw [if_pos (show s_fl (tC M5).1 = 0 from by rw [tC_1, vC_fl]; omega), tC_2 (by omega)]; show _ = M5 19 0; omega, by rw [← yp6, tC_1, vC_fl]; omega, by rw [← yp6]; unfold fpC; rw [if_pos (show s_fl (tC M5).1 = 0 from by rw [tC_1, vC_fl]; omega), tC_1, vC_f0 (by omega)]; omega, ⟨fun _ => ((cp_tr (cp_fr fp14 (by decide) (by decide) : Cp 2 2 M11 M13) (cp_fr fp16 (by decide) (by decide) : Cp 2 2 M13 M15))).1.trans (yp12.1.trans (((cp_ws f7 (by decide) (by decide) (by decide) (by decide) (by decide) (by decide) : Cp 19 19 M5 M8)).1.trans ((sC_D M5).trans (by rw [← yp6, tC_2 (by omega)])))), fun q => absurd (by rw [← yp6]; exact (show s_fl (tC M5).1 = 0 from by rw [tC_1, vC_fl]; omega)) q⟩, (fun _ => gw_cp (hIr.at (show Bd 19 1 = (0, 10) from rfl)).2 (cp_tr (cp_ws f7 (by decide) (by decide) (by decide) (by decide) (by decide) (by decide) : Cp 19 19 M5 M8) (cp_tr yp12 (cp_tr (cp_fr fp14 (by decide) (by decide) : Cp 2 2 M11 M13) (cp_fr fp16 (by decide) (by decide) : Cp 2 2 M13 M15)))) (zgp6 (by omega)))⟩⟩
      · refine z_bipush F dX11_town_45 (by decide +kernel) ?_
        refine z_aload_n F dX11_town_47 rfl (q := 0) rfl ?_
        refine rf_X11_25 F gs_0 rfl dX11_town_48 ?_
        refine gf_X11_111 F hI gs_18 rfl bd_18_1 dX11_town_51 (fun v21 ev21 av21 bv21 => ?_)
        have zv21 : v9 = v21 := ev9.trans ev21.symm
        subst zv21
        refine z_isub F dX11_town_54 ?_
        refine z_wrap (fun v22 rv22 wv22 => ?_)
        have e18 : M8 18 2 = M5 18 2 := (f7 18 2 (fun q => absurd q.1 (by decide)))
        have e18b : M8 18 1 = M5 18 1 := (f7 18 1 (fun q => absurd q.1 (by decide)))
        have zc : v22 = ansC (tC M5) := by
          unfold ansC
          rw [if_neg (show ¬ s_fl (tC M5).1 = 0 from by rw [tC_1, vC_fl]; omega), tC_1, vC_fl, show M5 18 1 = v9 from by omega]
          exact wr_eq rv22 wv22.2
        exact zxr_i F hQ hr hlk dX11_town_55 ⟨by decide, by decide⟩ (by omega) ⟨hI, hW⟩ ⟨⟨by omega, by omega⟩, hF, (by omega), ⟨by rw [← yp6]; exact zc, by rw [← yp6, tC_1, vC_fl]; omega, by rw [← yp6]; unfold fpC; rw [if_neg (show ¬ s_fl (tC M5).1 = 0 from by rw [tC_1, vC_fl]; omega), tC_1, vC_fp (by omega)]; omega, ⟨fun q => absurd (by rw [← yp6] at q; exact q) (show ¬ s_fl (tC M5).1 = 0 from by rw [tC_1, vC_fl]; omega), fun _ => (cp_tr (cp_fr fp6 (by decide) (by decide) : Cp 2 2 M M5) (cp_ws f7 (by decide) (by decide) (by decide) (by decide) (by decide) (by decide) : Cp 2 2 M5 M8))⟩, (fun q => absurd (by rw [← yp6] at q; exact q) (show ¬ s_fl (tC M5).1 = 0 from by rw [tC_1, vC_fl]; omega))⟩⟩
    · exact z_thrS (cls := "java/lang/IllegalArgumentException") (names := ["java/lang/RuntimeException", "java/lang/Exception"]) (j := 0) F hlT hQ hlk hex (by decide +kernel) (by decide +kernel) (by decide) (gin lm_360 rfl) (gin lm_361 rfl) at_X11_105 bad_X11_105 (by decide +kernel) ot_X11_105 rfl rfl rfl dX11_town_12 dX11_town_15 dX11_town_16 dX11_town_18 dX11_town_21 ⟨by decide, by decide⟩ (Nat.le_of_ble_eq_true rfl) ⟨hI, hW⟩ (⟨rfl, ⟨by omega, rfl⟩, hF⟩)
