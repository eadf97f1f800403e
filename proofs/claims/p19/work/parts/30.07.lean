theorem dX10_cut_0 : decode cX10_cut 0 = .ok (.aload_n 0, 1) := by decide +kernel
theorem dX10_cut_1 : decode cX10_cut 1 = .ok (.getfield 19, 3) := by decide +kernel
theorem dX10_cut_32 : decode cX10_cut 32 = .ok (.lload_n 1, 1) := by decide +kernel
theorem dX10_cut_33 : decode cX10_cut 33 = .ok (.l2i, 1) := by decide +kernel
theorem dX10_cut_34 : decode cX10_cut 34 = .ok (.i2b, 1) := by decide +kernel
theorem dX10_cut_35 : decode cX10_cut 35 = .ok (.i2l, 1) := by decide +kernel
theorem dX10_cut_36 : decode cX10_cut 36 = .ok (.lreturn, 1) := by decide +kernel
theorem dX10_cut_37 : decode cX10_cut 37 = .ok (.lload_n 1, 1) := by decide +kernel
theorem dX10_cut_38 : decode cX10_cut 38 = .ok (.l2i, 1) := by decide +kernel
theorem dX10_cut_39 : decode cX10_cut 39 = .ok (.i2s, 1) := by decide +kernel
theorem dX10_cut_4 : decode cX10_cut 4 = .ok (.tableswitch 42 0 2 #[28, 33, 38], 28) := by decide +kernel
theorem dX10_cut_40 : decode cX10_cut 40 = .ok (.i2l, 1) := by decide +kernel
theorem dX10_cut_41 : decode cX10_cut 41 = .ok (.lreturn, 1) := by decide +kernel
theorem dX10_cut_42 : decode cX10_cut 42 = .ok (.lload_n 1, 1) := by decide +kernel
theorem dX10_cut_43 : decode cX10_cut 43 = .ok (.l2i, 1) := by decide +kernel
theorem dX10_cut_44 : decode cX10_cut 44 = .ok (.i2l, 1) := by decide +kernel
theorem dX10_cut_45 : decode cX10_cut 45 = .ok (.lreturn, 1) := by decide +kernel
theorem dX10_cut_46 : decode cX10_cut 46 = .ok (.lload_n 1, 1) := by decide +kernel
theorem dX10_cut_47 : decode cX10_cut 47 = .ok (.lreturn, 1) := by decide +kernel
theorem dX10_put_0 : decode cX10_put 0 = .ok (.iload_n 1, 1) := by decide +kernel
theorem dX10_put_1 : decode cX10_put 1 = .ok (.ifCond .lt 22, 3) := by decide +kernel
theorem dX10_put_12 : decode cX10_put 12 = .ok (.aload_n 0, 1) := by decide +kernel
theorem dX10_put_13 : decode cX10_put 13 = .ok (.getfield 15, 3) := by decide +kernel
theorem dX10_put_16 : decode cX10_put 16 = .ok (.iload_n 1, 1) := by decide +kernel
theorem dX10_put_17 : decode cX10_put 17 = .ok (.aload_n 0, 1) := by decide +kernel
theorem dX10_put_18 : decode cX10_put 18 = .ok (.lload_n 2, 1) := by decide +kernel
theorem dX10_put_19 : decode cX10_put 19 = .ok (.invokevirtual 26, 3) := by decide +kernel
theorem dX10_put_22 : decode cX10_put 22 = .ok (.lastore, 1) := by decide +kernel
theorem dX10_put_23 : decode cX10_put 23 = .ok (.return_, 1) := by decide +kernel
theorem dX10_put_4 : decode cX10_put 4 = .ok (.iload_n 1, 1) := by decide +kernel
theorem dX10_put_5 : decode cX10_put 5 = .ok (.aload_n 0, 1) := by decide +kernel
theorem dX10_put_6 : decode cX10_put 6 = .ok (.getfield 9, 3) := by decide +kernel
theorem dX10_put_9 : decode cX10_put 9 = .ok (.if_icmp .ge 14, 3) := by decide +kernel
theorem dX11_needImage_0 : decode cX11_needImage 0 = .ok (.iload_n 1, 1) := by decide +kernel
theorem dX11_needImage_1 : decode cX11_needImage 1 = .ok (.ifCond .lt 12, 3) := by decide +kernel
theorem dX11_needImage_10 : decode cX11_needImage 10 = .ok (.if_icmp .lt 14, 3) := by decide +kernel
theorem dX11_needImage_13 : decode cX11_needImage 13 = .ok (.new 203, 3) := by decide +kernel
theorem dX11_needImage_16 : decode cX11_needImage 16 = .ok (.dup, 1) := by decide +kernel
theorem dX11_needImage_17 : decode cX11_needImage 17 = .ok (.ldc_w 490, 3) := by decide +kernel
theorem dX11_needImage_20 : decode cX11_needImage 20 = .ok (.invokespecial 207, 3) := by decide +kernel
theorem dX11_needImage_23 : decode cX11_needImage 23 = .ok (.athrow, 1) := by decide +kernel
theorem dX11_needImage_24 : decode cX11_needImage 24 = .ok (.return_, 1) := by decide +kernel
theorem dX11_needImage_4 : decode cX11_needImage 4 = .ok (.iload_n 1, 1) := by decide +kernel
theorem dX11_needImage_5 : decode cX11_needImage 5 = .ok (.aload_n 0, 1) := by decide +kernel
theorem dX11_needImage_6 : decode cX11_needImage 6 = .ok (.getfield 51, 3) := by decide +kernel
theorem dX11_needImage_9 : decode cX11_needImage 9 = .ok (.arraylength, 1) := by decide +kernel
theorem dX11_pour_0 : decode cX11_pour 0 = .ok (.aload_n 0, 1) := by decide +kernel
theorem dX11_pour_1 : decode cX11_pour 1 = .ok (.iload_n 1, 1) := by decide +kernel
theorem dX11_pour_10 : decode cX11_pour 10 = .ok (.aload_n 0, 1) := by decide +kernel
theorem dX11_pour_11 : decode cX11_pour 11 = .ok (.getfield 16, 3) := by decide +kernel
theorem dX11_pour_14 : decode cX11_pour 14 = .ok (.getfield 286, 3) := by decide +kernel
theorem dX11_pour_17 : decode cX11_pour 17 = .ok (.invokestatic 465, 3) := by decide +kernel
theorem dX11_pour_2 : decode cX11_pour 2 = .ok (.invokevirtual 248, 3) := by decide +kernel
theorem dX11_pour_20 : decode cX11_pour 20 = .ok (.istore_n 3, 1) := by decide +kernel
theorem dX11_pour_21 : decode cX11_pour 21 = .ok (.iconst 0, 1) := by decide +kernel
theorem dX11_pour_22 : decode cX11_pour 22 = .ok (.istore 4, 2) := by decide +kernel
theorem dX11_pour_24 : decode cX11_pour 24 = .ok (.iload 4, 2) := by decide +kernel
theorem dX11_pour_26 : decode cX11_pour 26 = .ok (.iload_n 3, 1) := by decide +kernel
theorem dX11_pour_27 : decode cX11_pour 27 = .ok (.if_icmp .ge 26, 3) := by decide +kernel
theorem dX11_pour_30 : decode cX11_pour 30 = .ok (.aload_n 2, 1) := by decide +kernel
theorem dX11_pour_31 : decode cX11_pour 31 = .ok (.iload 4, 2) := by decide +kernel
theorem dX11_pour_33 : decode cX11_pour 33 = .ok (.aload_n 0, 1) := by decide +kernel
theorem dX11_pour_34 : decode cX11_pour 34 = .ok (.getfield 34, 3) := by decide +kernel
theorem dX11_pour_37 : decode cX11_pour 37 = .ok (.getfield 135, 3) := by decide +kernel
theorem dX11_pour_40 : decode cX11_pour 40 = .ok (.iload 4, 2) := by decide +kernel
theorem dX11_pour_42 : decode cX11_pour 42 = .ok (.iaload, 1) := by decide +kernel
theorem dX11_pour_43 : decode cX11_pour 43 = .ok (.i2l, 1) := by decide +kernel
theorem dX11_pour_44 : decode cX11_pour 44 = .ok (.invokevirtual 461, 3) := by decide +kernel
theorem dX11_pour_47 : decode cX11_pour 47 = .ok (.iinc 4 1, 3) := by decide +kernel
theorem dX11_pour_5 : decode cX11_pour 5 = .ok (.astore_n 2, 1) := by decide +kernel
theorem dX11_pour_50 : decode cX11_pour 50 = .ok (.goto (-26), 3) := by decide +kernel
theorem dX11_pour_53 : decode cX11_pour 53 = .ok (.iload_n 3, 1) := by decide +kernel
theorem dX11_pour_54 : decode cX11_pour 54 = .ok (.ireturn, 1) := by decide +kernel
theorem dX11_pour_6 : decode cX11_pour 6 = .ok (.aload_n 2, 1) := by decide +kernel
theorem dX11_pour_7 : decode cX11_pour 7 = .ok (.getfield 266, 3) := by decide +kernel
theorem dX11_tray_0 : decode cX11_tray 0 = .ok (.aload_n 0, 1) := by decide +kernel
theorem dX11_tray_1 : decode cX11_tray 1 = .ok (.iload_n 1, 1) := by decide +kernel
theorem dX11_tray_10 : decode cX11_tray 10 = .ok (.iconst 3, 1) := by decide +kernel
theorem dX11_tray_11 : decode cX11_tray 11 = .ok (.if_icmp .le 14, 3) := by decide +kernel
theorem dX11_tray_14 : decode cX11_tray 14 = .ok (.new 101, 3) := by decide +kernel
theorem dX11_tray_17 : decode cX11_tray 17 = .ok (.dup, 1) := by decide +kernel
theorem dX11_tray_18 : decode cX11_tray 18 = .ok (.ldc_w 449, 3) := by decide +kernel
theorem dX11_tray_2 : decode cX11_tray 2 = .ok (.invokevirtual 446, 3) := by decide +kernel
theorem dX11_tray_21 : decode cX11_tray 21 = .ok (.invokespecial 105, 3) := by decide +kernel
theorem dX11_tray_24 : decode cX11_tray 24 = .ok (.athrow, 1) := by decide +kernel
theorem dX11_tray_25 : decode cX11_tray 25 = .ok (.iload_n 3, 1) := by decide +kernel
theorem dX11_tray_26 : decode cX11_tray 26 = .ok (.ifCond .lt 9, 3) := by decide +kernel
theorem dX11_tray_29 : decode cX11_tray 29 = .ok (.iload_n 3, 1) := by decide +kernel
theorem dX11_tray_30 : decode cX11_tray 30 = .ok (.bipush 30, 2) := by decide +kernel
theorem dX11_tray_32 : decode cX11_tray 32 = .ok (.if_icmp .le 14, 3) := by decide +kernel
theorem dX11_tray_35 : decode cX11_tray 35 = .ok (.new 101, 3) := by decide +kernel
theorem dX11_tray_38 : decode cX11_tray 38 = .ok (.dup, 1) := by decide +kernel
theorem dX11_tray_39 : decode cX11_tray 39 = .ok (.ldc_w 451, 3) := by decide +kernel
theorem dX11_tray_42 : decode cX11_tray 42 = .ok (.invokespecial 105, 3) := by decide +kernel
theorem dX11_tray_45 : decode cX11_tray 45 = .ok (.athrow, 1) := by decide +kernel
theorem dX11_tray_46 : decode cX11_tray 46 = .ok (.aload_n 0, 1) := by decide +kernel
theorem dX11_tray_47 : decode cX11_tray 47 = .ok (.getfield 57, 3) := by decide +kernel
theorem dX11_tray_5 : decode cX11_tray 5 = .ok (.iload_n 2, 1) := by decide +kernel
theorem dX11_tray_50 : decode cX11_tray 50 = .ok (.iload_n 1, 1) := by decide +kernel
theorem dX11_tray_51 : decode cX11_tray 51 = .ok (.aaload, 1) := by decide +kernel
theorem dX11_tray_52 : decode cX11_tray 52 = .ok (.iload_n 2, 1) := by decide +kernel
theorem dX11_tray_53 : decode cX11_tray 53 = .ok (.iload_n 3, 1) := by decide +kernel
theorem dX11_tray_54 : decode cX11_tray 54 = .ok (.invokevirtual 453, 3) := by decide +kernel
theorem dX11_tray_57 : decode cX11_tray 57 = .ok (.return_, 1) := by decide +kernel
theorem dX11_tray_6 : decode cX11_tray 6 = .ok (.ifCond .lt 8, 3) := by decide +kernel
theorem dX11_tray_9 : decode cX11_tray 9 = .ok (.iload_n 2, 1) := by decide +kernel
theorem dX11_write_0 : decode cX11_write 0 = .ok (.aload_n 0, 1) := by decide +kernel
theorem dX11_write_1 : decode cX11_write 1 = .ok (.iload_n 1, 1) := by decide +kernel
theorem dX11_write_11 : decode cX11_write 11 = .ok (.iload_n 2, 1) := by decide +kernel
theorem dX11_write_12 : decode cX11_write 12 = .ok (.aload 5, 2) := by decide +kernel
theorem dX11_write_14 : decode cX11_write 14 = .ok (.getfield 266, 3) := by decide +kernel
theorem dX11_write_17 : decode cX11_write 17 = .ok (.if_icmp .lt 14, 3) := by decide +kernel
theorem dX11_write_2 : decode cX11_write 2 = .ok (.invokevirtual 248, 3) := by decide +kernel
theorem dX11_write_20 : decode cX11_write 20 = .ok (.new 456, 3) := by decide +kernel
theorem dX11_write_23 : decode cX11_write 23 = .ok (.dup, 1) := by decide +kernel
theorem dX11_write_24 : decode cX11_write 24 = .ok (.ldc_w 458, 3) := by decide +kernel
theorem dX11_write_27 : decode cX11_write 27 = .ok (.invokespecial 460, 3) := by decide +kernel
theorem dX11_write_30 : decode cX11_write 30 = .ok (.athrow, 1) := by decide +kernel
theorem dX11_write_31 : decode cX11_write 31 = .ok (.aload 5, 2) := by decide +kernel
theorem dX11_write_33 : decode cX11_write 33 = .ok (.iload_n 2, 1) := by decide +kernel
theorem dX11_write_34 : decode cX11_write 34 = .ok (.lload_n 3, 1) := by decide +kernel
theorem dX11_write_35 : decode cX11_write 35 = .ok (.invokevirtual 461, 3) := by decide +kernel
theorem dX11_write_38 : decode cX11_write 38 = .ok (.aload 5, 2) := by decide +kernel
theorem dX11_write_40 : decode cX11_write 40 = .ok (.iload_n 2, 1) := by decide +kernel
theorem dX11_write_41 : decode cX11_write 41 = .ok (.invokevirtual 267, 3) := by decide +kernel
theorem dX11_write_44 : decode cX11_write 44 = .ok (.lreturn, 1) := by decide +kernel
theorem dX11_write_5 : decode cX11_write 5 = .ok (.astore 5, 2) := by decide +kernel
theorem dX11_write_7 : decode cX11_write 7 = .ok (.iload_n 2, 1) := by decide +kernel
theorem dX11_write_8 : decode cX11_write 8 = .ok (.ifCond .lt 12, 3) := by decide +kernel
theorem dX9_copy_0 : decode cX9_copy 0 = .ok (.aload_n 0, 1) := by decide +kernel
theorem dX9_copy_1 : decode cX9_copy 1 = .ok (.iconst 0, 1) := by decide +kernel
theorem dX9_copy_11 : decode cX9_copy 11 = .ok (.invokestatic 91, 3) := by decide +kernel
theorem dX9_copy_14 : decode cX9_copy 14 = .ok (.return_, 1) := by decide +kernel
theorem dX9_copy_2 : decode cX9_copy 2 = .ok (.aload_n 1, 1) := by decide +kernel
theorem dX9_copy_3 : decode cX9_copy 3 = .ok (.iconst 0, 1) := by decide +kernel
theorem dX9_copy_4 : decode cX9_copy 4 = .ok (.aload_n 0, 1) := by decide +kernel
theorem dX9_copy_5 : decode cX9_copy 5 = .ok (.arraylength, 1) := by decide +kernel
theorem dX9_copy_6 : decode cX9_copy 6 = .ok (.aload_n 1, 1) := by decide +kernel
theorem dX9_copy_7 : decode cX9_copy 7 = .ok (.arraylength, 1) := by decide +kernel
theorem dX9_copy_8 : decode cX9_copy 8 = .ok (.invokestatic 85, 3) := by decide +kernel
set_option maxRecDepth 4000 in
theorem k_X10_lay_129 (l : Launch) (M : Mem) (hJ : Iw M) (x0 : Int) (hx0a : 0 ≤ x0) (hx0b : x0 ≤ 3) (x1 : Int) (hx1a : 0 ≤ x1) (hx1b : x1 ≤ 30) : CV l yX10_lay cX10_lay 4 none 2 (fun ad => [.ref (ad 129), ii x0, ii x1]) M (fun M' => Fr [129, 130] M M') := by
  obtain ⟨hI, hW⟩ := hJ
  have hF : Fr [129, 130] M M := Fr.rf
  refine en_v (by decide +kernel) (fun ad => by exact Nat.le_of_ble_eq_true rfl) (fun D cy ad A p e s m args below meth c Q F hret => ?_)
  refine z_eq (ls' := [(0, .ref (ad 129)), (1, ii x0), (2, ii x1)]) rfl rfl rfl ?_
  refine z_aload_n F dX10_lay_0 rfl (q := 0) rfl ?_
  refine z_iload_n F dX10_lay_1 rfl (q := 1) rfl ?_
  refine pf_X10_19 F hI gs_129 rfl bd_129_1 rfl rfl dX10_lay_2 (by omega) (by omega) (fun M2 hI sf1 f1 => ?_)
  have hF := hF.wr f1 (by decide) (by decide)
  have hW : WFk M2 := hW.site f1 (by decide)
  refine z_aload_n F dX10_lay_5 rfl (q := 0) rfl ?_
  refine z_iload_n F dX10_lay_6 rfl (q := 2) rfl ?_
  refine z_iconst F dX10_lay_7 ?_
  refine z_aload_n F dX10_lay_8 rfl (q := 0) rfl ?_
  refine rf_X10_15 F gs_129 rfl dX10_lay_9 ?_
  refine z_alen (x := 30) F gs_130 rfl rfl dX10_lay_12 ?_
  refine zn_i (rest := [.ref (ad 129)]) F (k_X11_keptWithin l M2 ⟨hI, hW⟩ x1 (by omega) (by omega) 0 (by omega) (by omega) 30 (by omega) (by omega)) cs_X10_22 (by decide) (by decide) rfl rfl rfl (Nat.le_of_ble_eq_true rfl) dX10_lay_13 (fun v3 M4 rv3 hI p5 => ?_)
  obtain ⟨hI, hW⟩ := hI
  obtain ⟨⟨av3, bv3⟩, rfl, xp5⟩ := p5
  have hkv3 : 0 ≤ v3 ∧ v3 ≤ 30 := by omega
  refine pf_X10_9 F hI gs_129 rfl bd_129_0 rfl rfl dX10_lay_16 (by omega) (by omega) (fun M7 hI sf6 f6 => ?_)
  have hF := hF.wr f6 (by decide) (by decide)
  have hW : WFk M7 := hW.site f6 (by decide)
  refine z_iconst F dX10_lay_19 ?_
  refine z_istore_n F dX10_lay_20 rfl (by decide) (ls' := [(3, ii 0), (0, .ref (ad 129)), (1, ii x0), (2, ii x1)]) rfl ?_
  refine z_loc [1, 0] (ls' := [(0, .ref (ad 129)), (3, ii 0)]) rfl ?_
  suffices key21 : ∀ (n : Nat) (y9 : Int) (M8 : Mem), Inv M8 → WFk M8 → Fr [129, 130] M M8 → 0 ≤ y9 → y9 ≤ 30 → 30 - y9 < (n : Int) → Z D cy ad p l e (RMh 2) s m args below meth c A 4 0 0 Q 21 [(0, .ref (ad 129)), (3, ii y9)] [] M8 from key21 31 0 M7 hI hW hF (by omega) (by omega) (by omega)
  intro n21
  induction n21 with
  | zero => intro y9 M8 hI hW hF ay9 by9 hn21; exfalso; omega
  | succ n21 ih21 =>
    intro y9 M8 hI hW hF ay9 by9 hn21
    refine z_iload_n F dX10_lay_21 rfl (q := 1) rfl ?_
    refine z_aload_n F dX10_lay_22 rfl (q := 0) rfl ?_
    refine gf_X10_9 F hI gs_129 rfl bd_129_0 dX10_lay_23 (fun v10 ev10 av10 bv10 => ?_)
    refine z_icmp_ge (tgt := 42) F dX10_lay_26 (by decide +kernel) (by omega) (by omega) (fun c11 => ?_) (fun c11 => ?_)
    · exact hret _ 42 _ ⟨hI, hW⟩ hF dX10_lay_42
    · refine z_aload_n F dX10_lay_29 rfl (q := 0) rfl ?_
      refine rf_X10_15 F gs_129 rfl dX10_lay_30 ?_
      refine z_iload_n F dX10_lay_33 rfl (q := 1) rfl ?_
      refine z_lconst (x := 0) F dX10_lay_34 (by decide +kernel) ?_
      refine z_last F hI gs_130 (by omega) (by omega) (by decide) bd_130 dX10_lay_35 (by omega) (by omega) (fun M13 hI sf12 f12 => ?_)
      have hF := hF.wr f12 (by decide) (by decide)
      have hW : WFk M13 := hW.site f12 (by decide)
      refine z_iincN F dX10_lay_36 (q := 1) rfl (by decide) (fun v14 ev14 => ?_)
      refine z_eq (ls' := [(3, ii v14), (0, .ref (ad 129))]) rfl rfl rfl ?_
      refine z_goto (tgt := 21) F dX10_lay_39 (by decide +kernel) ?_
      refine z_loc [1, 0] (ls' := [(0, .ref (ad 129)), (3, ii v14)]) rfl ?_
      exact ih21 v14 M13 hI hW hF (by omega) (by omega) (by omega)
set_option maxRecDepth 4000 in
theorem k_X11_tray (l : Launch) (hlT : l.stackTraces = false) (M : Mem) (hJ : Iw M) (x0 : Int) (hx0a : (-2147483648) ≤ x0) (hx0b : x0 ≤ 2147483647) (x1 : Int) (hx1a : (-2147483648) ≤ x1) (hx1b : x1 ≤ 2147483647) (x2 : Int) (hx2a : (-2147483648) ≤ x2) (hx2b : x2 ≤ 2147483647) : CVX l yX11_tray cX11_tray 4 none 3 2 (fun ad => [.ref (ad 0), ii x0, ii x1, ii x2]) M (fun M' => Fr [123, 124, 125, 126, 127, 128, 129, 130] M M' ∧ (0 ≤ x0 ∧ x0 ≤ 3 ∧ 0 ≤ x1 ∧ x1 ≤ 3 ∧ 0 ≤ x2 ∧ x2 ≤ 30)) (fun E M' => (E = "java/lang/IllegalArgumentException" ∧ ((0 ≤ x0 ∧ x0 ≤ 3 ∧ (x1 < 0 ∨ 3 < x1 ∨ x2 < 0 ∨ 30 < x2))) ∧ Fr [123, 124, 125, 126, 127, 128, 129, 130] M M') ∨ (E = "java/util/NoSuchElementException" ∧ ((x0 < 0 ∨ 3 < x0)) ∧ Fr [123, 124, 125, 126, 127, 128, 129, 130] M M')) := by
  obtain ⟨hI, hW⟩ := hJ
  have hF : Fr [123, 124, 125, 126, 127, 128, 129, 130] M M := Fr.rf
  refine enx_v (by decide +kernel) (fun ad => by exact Nat.le_of_ble_eq_true rfl) (fun D cy ad A p e s m args below meth c Q F hQ hr hlk hex => ?_)
  refine z_eq (ls' := [(0, .ref (ad 0)), (1, ii x0), (2, ii x1), (3, ii x2)]) rfl rfl rfl ?_
  refine z_aload_n F dX11_tray_0 rfl (q := 0) rfl ?_
  refine z_iload_n F dX11_tray_1 rfl (q := 1) rfl ?_
  refine zy_v (rest := []) F (k_X11_needTray l hlT M ⟨hI, hW⟩ x0 (by omega) (by omega)) cs_X11_446 (T := TX11) (N := 14) (ci := 11) rfl gs_0 (by decide) (by decide) ⟨by decide, by decide⟩ rfl rfl rfl (Nat.le_of_ble_eq_true rfl) dX11_tray_2 (fun E M9 hJ9 hx => by obtain ⟨h9, g9, rfl⟩ := hx <;> first | (exact zx_out hQ hlk hex ⟨by decide, by decide⟩ hJ9 (Or.inr (⟨h9, (by omega), hF⟩)))) (fun M1 hI p2 => ?_)
  obtain ⟨hI, hW⟩ := hI
  obtain ⟨rfl, xp2⟩ := p2
  refine z_iload_n F dX11_tray_5 rfl (q := 2) rfl ?_
  refine z_if_lt (tgt := 14) F dX11_tray_6 (by decide +kernel) (by omega) (fun c3 => ?_) (fun c3 => ?_)
  · exact z_thrSW (cls := "java/lang/IllegalArgumentException") (names := ["java/lang/RuntimeException", "java/lang/Exception"]) (j := 52) F hlT hQ hlk hex (by decide +kernel) (by decide +kernel) (by decide) (gin lm_360 rfl) (gin lm_361 rfl) at_X11_105 bad_X11_105 (by decide +kernel) ot_X11_105 rfl rfl rfl dX11_tray_14 dX11_tray_17 dX11_tray_18 dX11_tray_21 dX11_tray_24 ⟨by decide, by decide⟩ (Nat.le_of_ble_eq_true rfl) ⟨hI, hW⟩ (Or.inl ⟨rfl, (by omega), hF⟩)
  · refine z_iload_n F dX11_tray_9 rfl (q := 2) rfl ?_
    refine z_iconst F dX11_tray_10 ?_
    refine z_icmp_le (tgt := 25) F dX11_tray_11 (by decide +kernel) (by omega) (by omega) (fun c4 => ?_) (fun c4 => ?_)
    · refine z_iload_n F dX11_tray_25 rfl (q := 3) rfl ?_
      refine z_if_lt (tgt := 35) F dX11_tray_26 (by decide +kernel) (by omega) (fun c5 => ?_) (fun c5 => ?_)
      · exact z_thrSW (cls := "java/lang/IllegalArgumentException") (names := ["java/lang/RuntimeException", "java/lang/Exception"]) (j := 53) F hlT hQ hlk hex (by decide +kernel) (by decide +kernel) (by decide) (gin lm_360 rfl) (gin lm_361 rfl) at_X11_105 bad_X11_105 (by decide +kernel) ot_X11_105 rfl rfl rfl dX11_tray_35 dX11_tray_38 dX11_tray_39 dX11_tray_42 dX11_tray_45 ⟨by decide, by decide⟩ (Nat.le_of_ble_eq_true rfl) ⟨hI, hW⟩ (Or.inl ⟨rfl, (by omega), hF⟩)
      · refine z_iload_n F dX11_tray_29 rfl (q := 3) rfl ?_
        refine z_bipush F dX11_tray_30 (by decide +kernel) ?_
        refine z_icmp_le (tgt := 46) F dX11_tray_32 (by decide +kernel) (by omega) (by omega) (fun c6 => ?_) (fun c6 => ?_)
        · refine z_aload_n F dX11_tray_46 rfl (q := 0) rfl ?_
          refine rf_X11_57 F gs_0 rfl dX11_tray_47 ?_
          refine z_iload_n F dX11_tray_50 rfl (q := 1) rfl ?_
          rcases (show x0 = 0 ∨ x0 = 1 ∨ x0 = 2 ∨ x0 = 3 by omega) with cq | cq | cq | cq
          · refine z_aald (r := 123) F gs_44 rfl (by omega) (by show x0 < ((4 : Nat) : Int); omega) (by decide) (by rw [cq]; rfl) dX11_tray_51 ?_
            refine z_iload_n F dX11_tray_52 rfl (q := 2) rfl ?_
            refine z_iload_n F dX11_tray_53 rfl (q := 3) rfl ?_
            refine zw_v (rest := []) F (k_X10_lay_123 l M ⟨hI, hW⟩ x1 (by omega) (by omega) x2 (by omega) (by omega)) cs_X11_453 (T := TX10) (N := 3) (ci := 10) rfl gs_123 (by decide) (by decide) ⟨by decide, by decide⟩ rfl rfl rfl (Nat.le_of_ble_eq_true rfl) dX11_tray_54 (fun M7 hI p8 => ?_)
            obtain ⟨hI, hW⟩ := hI
            have fp8 := p8
            have hF := hF.call fp8 (by decide)
            exact zxr_v F hQ hr hlk dX11_tray_57 ⟨by decide, by decide⟩ ⟨hI, hW⟩ ⟨hF, (by omega)⟩
          · refine z_aald (r := 125) F gs_44 rfl (by omega) (by show x0 < ((4 : Nat) : Int); omega) (by decide) (by rw [cq]; rfl) dX11_tray_51 ?_
            refine z_iload_n F dX11_tray_52 rfl (q := 2) rfl ?_
            refine z_iload_n F dX11_tray_53 rfl (q := 3) rfl ?_
            refine zw_v (rest := []) F (k_X10_lay_125 l M ⟨hI, hW⟩ x1 (by omega) (by omega) x2 (by omega) (by omega)) cs_X11_453 (T := TX10) (N := 3) (ci := 10) rfl gs_125 (by decide) (by decide) ⟨by decide, by decide⟩ rfl rfl rfl (Nat.le_of_ble_eq_true rfl) dX11_tray_54 (fun M9 hI p10 => ?_)
            obtain ⟨hI, hW⟩ := hI
            have fp10 := p10
            have hF := hF.call fp10 (by decide)
            exact zxr_v F hQ hr hlk dX11_tray_57 ⟨by decide, by decide⟩ ⟨hI, hW⟩ ⟨hF, (by omega)⟩
          · refine z_aald (r := 127) F gs_44 rfl (by omega) (by show x0 < ((4 : Nat) : Int); omega) (by decide) (by rw [cq]; rfl) dX11_tray_51 ?_
            refine z_iload_n F dX11_tray_52 rfl (q := 2) rfl ?_
            refine z_iload_n F dX11_tray_53 rfl (q := 3) rfl ?_
            refine zw_v (rest := []) F (k_X10_lay_127 l M ⟨hI, hW⟩ x1 (by omega) (by omega) x2 (by omega) (by omega)) cs_X11_453 (T := TX10) (N := 3) (ci := 10) rfl gs_127 (by decide) (by decide) ⟨by decide, by decide⟩ rfl rfl rfl (Nat.le_of_ble_eq_true rfl) dX11_tray_54 (fun M11 hI p12 => ?_)
            obtain ⟨hI, hW⟩ := hI
            have fp12 := p12
            have hF := hF.call fp12 (by decide)
            exact zxr_v F hQ hr hlk dX11_tray_57 ⟨by decide, by decide⟩ ⟨hI, hW⟩ ⟨hF, (by omega)⟩
          · refine z_aald (r := 129) F gs_44 rfl (by omega) (by show x0 < ((4 : Nat) : Int); omega) (by decide) (by rw [cq]; rfl) dX11_tray_51 ?_
            refine z_iload_n F dX11_tray_52 rfl (q := 2) rfl ?_
            refine z_iload_n F dX11_tray_53 rfl (q := 3) rfl ?_
            refine zw_v (rest := []) F (k_X10_lay_129 l M ⟨hI, hW⟩ x1 (by omega) (by omega) x2 (by omega) (by omega)) cs_X11_453 (T := TX10) (N := 3) (ci := 10) rfl gs_129 (by decide) (by decide) ⟨by decide, by decide⟩ rfl rfl rfl (Nat.le_of_ble_eq_true rfl) dX11_tray_54 (fun M13 hI p14 => ?_)
            obtain ⟨hI, hW⟩ := hI
            have fp14 := p14
            have hF := hF.call fp14 (by decide)
            exact zxr_v F hQ hr hlk dX11_tray_57 ⟨by decide, by decide⟩ ⟨hI, hW⟩ ⟨hF, (by omega)⟩
        · exact z_thrSW (cls := "java/lang/IllegalArgumentException") (names := ["java/lang/RuntimeException", "java/lang/Exception"]) (j := 53) F hlT hQ hlk hex (by decide +kernel) (by decide +kernel) (by decide) (gin lm_360 rfl) (gin lm_361 rfl) at_X11_105 bad_X11_105 (by decide +kernel) ot_X11_105 rfl rfl rfl dX11_tray_35 dX11_tray_38 dX11_tray_39 dX11_tray_42 dX11_tray_45 ⟨by decide, by decide⟩ (Nat.le_of_ble_eq_true rfl) ⟨hI, hW⟩ (Or.inl ⟨rfl, (by omega), hF⟩)
    · exact z_thrSW (cls := "java/lang/IllegalArgumentException") (names := ["java/lang/RuntimeException", "java/lang/Exception"]) (j := 52) F hlT hQ hlk hex (by decide +kernel) (by decide +kernel) (by decide) (gin lm_360 rfl) (gin lm_361 rfl) at_X11_105 bad_X11_105 (by decide +kernel) ot_X11_105 rfl rfl rfl dX11_tray_14 dX11_tray_17 dX11_tray_18 dX11_tray_21 dX11_tray_24 ⟨by decide, by decide⟩ (Nat.le_of_ble_eq_true rfl) ⟨hI, hW⟩ (Or.inl ⟨rfl, (by omega), hF⟩)
set_option maxRecDepth 4000 in
theorem k_X10_cut_123 (l : Launch) (M : Mem) (hJ : Iw M) (x0 : Int) (hx0a : (-9223372036854775808) ≤ x0) (hx0b : x0 ≤ 9223372036854775807) : CL l yX10_cut cX10_cut 3 (some .long) 1 (fun ad => [.ref (ad 123), ll x0]) M (fun z M' => ((-9223372036854775808) ≤ z ∧ z ≤ 9223372036854775807) ∧ M = M') := by
  obtain ⟨hI, hW⟩ := hJ
  refine en_l (by decide +kernel) (fun ad => by exact Nat.le_of_ble_eq_true rfl) (fun D cy ad A p e s m args below meth c Q F hret => ?_)
  refine z_eq (ls' := [(0, .ref (ad 123)), (1, ll x0)]) rfl rfl rfl ?_
  refine z_aload_n F dX10_cut_0 rfl (q := 0) rfl ?_
  refine gf_X10_19 F hI gs_123 rfl bd_123_1 dX10_cut_1 (fun v1 ev1 av1 bv1 => ?_)
  rcases (show v1 = 0 ∨ v1 = 1 ∨ v1 = 2 ∨ (¬ v1 = 0 ∧ ¬ v1 = 1 ∧ ¬ v1 = 2) by omega) with c2 | c2 | c2 | c2
  · refine z_tabIn (tgt := 32) (off := 28) F dX10_cut_4 (by omega) (by omega) (by omega) (by rw [c2]; rfl) (by decide +kernel) ?_
    refine z_lload_n F dX10_cut_32 rfl (q := 1) rfl ?_
    refine z_l2i F dX10_cut_33 (by omega) ?_
    refine z_wrap (fun v3 rv3 wv3 => ?_)
    refine z_i2b F dX10_cut_34 (fun v4 ev4 av4 bv4 => ?_)
    refine z_i2l F dX10_cut_35 (by omega) ?_
    exact hret _ _ 36 _ (by omega) ⟨hI, hW⟩ ⟨⟨by omega, by omega⟩, rfl⟩ dX10_cut_36
  · refine z_tabIn (tgt := 37) (off := 33) F dX10_cut_4 (by omega) (by omega) (by omega) (by rw [c2]; rfl) (by decide +kernel) ?_
    refine z_lload_n F dX10_cut_37 rfl (q := 1) rfl ?_
    refine z_l2i F dX10_cut_38 (by omega) ?_
    refine z_wrap (fun v5 rv5 wv5 => ?_)
    refine z_i2s F dX10_cut_39 (fun v6 ev6 av6 bv6 => ?_)
    refine z_i2l F dX10_cut_40 (by omega) ?_
    exact hret _ _ 41 _ (by omega) ⟨hI, hW⟩ ⟨⟨by omega, by omega⟩, rfl⟩ dX10_cut_41
  · refine z_tabIn (tgt := 42) (off := 38) F dX10_cut_4 (by omega) (by omega) (by omega) (by rw [c2]; rfl) (by decide +kernel) ?_
    refine z_lload_n F dX10_cut_42 rfl (q := 1) rfl ?_
    refine z_l2i F dX10_cut_43 (by omega) ?_
    refine z_wrap (fun v7 rv7 wv7 => ?_)
    refine z_i2l F dX10_cut_44 (by omega) ?_
    exact hret _ _ 45 _ (by omega) ⟨hI, hW⟩ ⟨⟨by omega, by omega⟩, rfl⟩ dX10_cut_45
  · refine z_tabOut (tgt := 46) F dX10_cut_4 (by omega) (by omega) (by decide +kernel) ?_
    refine z_lload_n F dX10_cut_46 rfl (q := 1) rfl ?_
    exact hret _ _ 47 _ (by omega) ⟨hI, hW⟩ ⟨⟨by omega, by omega⟩, rfl⟩ dX10_cut_47
set_option maxRecDepth 4000 in
theorem k_X10_put_123 (l : Launch) (M : Mem) (hJ : Iw M) (x0 : Int) (hx0a : (-2147483648) ≤ x0) (hx0b : x0 ≤ 2147483647) (x1 : Int) (hx1a : (-9223372036854775808) ≤ x1) (hx1b : x1 ≤ 9223372036854775807) : CV l yX10_put cX10_put 4 none 2 (fun ad => [.ref (ad 123), ii x0, ll x1]) M (fun M' => Fr [124] M M') := by
  obtain ⟨hI, hW⟩ := hJ
  have hF : Fr [124] M M := Fr.rf
  refine en_v (by decide +kernel) (fun ad => by exact Nat.le_of_ble_eq_true rfl) (fun D cy ad A p e s m args below meth c Q F hret => ?_)
  refine z_eq (ls' := [(0, .ref (ad 123)), (1, ii x0), (2, ll x1)]) rfl rfl rfl ?_
  refine z_iload_n F dX10_put_0 rfl (q := 1) rfl ?_
  refine z_if_lt (tgt := 23) F dX10_put_1 (by decide +kernel) (by omega) (fun c1 => ?_) (fun c1 => ?_)
  · exact hret _ 23 _ ⟨hI, hW⟩ hF dX10_put_23
  · refine z_iload_n F dX10_put_4 rfl (q := 1) rfl ?_
    refine z_aload_n F dX10_put_5 rfl (q := 0) rfl ?_
    refine gf_X10_9 F hI gs_123 rfl bd_123_0 dX10_put_6 (fun v2 ev2 av2 bv2 => ?_)
    refine z_icmp_ge (tgt := 23) F dX10_put_9 (by decide +kernel) (by omega) (by omega) (fun c3 => ?_) (fun c3 => ?_)
    · exact hret _ 23 _ ⟨hI, hW⟩ hF dX10_put_23
    · refine z_aload_n F dX10_put_12 rfl (q := 0) rfl ?_
      refine rf_X10_15 F gs_123 rfl dX10_put_13 ?_
      refine z_iload_n F dX10_put_16 rfl (q := 1) rfl ?_
      refine z_aload_n F dX10_put_17 rfl (q := 0) rfl ?_
      refine z_lload_n F dX10_put_18 rfl (q := 2) rfl ?_
      refine zv_l (rest := [ii x0, .ref (ad 124)]) F (k_X10_cut_123 l M ⟨hI, hW⟩ x1 (by omega) (by omega)) cs_X10_26 (T := TX10) (N := 3) (ci := 10) rfl gs_123 (by decide) (by decide) rfl rfl rfl (Nat.le_of_ble_eq_true rfl) dX10_put_19 (fun v4 M5 rv4 hI p6 => ?_)
      obtain ⟨hI, hW⟩ := hI
      obtain ⟨⟨av4, bv4⟩, rfl⟩ := p6
      refine z_last F hI gs_124 (by omega) (by omega) (by decide) bd_124 dX10_put_22 (by omega) (by omega) (fun M8 hI sf7 f7 => ?_)
      have hF := hF.wr f7 (by decide) (by decide)
      have hW : WFk M8 := hW.site f7 (by decide)
      exact hret _ 23 _ ⟨hI, hW⟩ hF dX10_put_23
set_option maxRecDepth 4000 in
theorem k_X10_cut_125 (l : Launch) (M : Mem) (hJ : Iw M) (x0 : Int) (hx0a : (-9223372036854775808) ≤ x0) (hx0b : x0 ≤ 9223372036854775807) : CL l yX10_cut cX10_cut 3 (some .long) 1 (fun ad => [.ref (ad 125), ll x0]) M (fun z M' => ((-9223372036854775808) ≤ z ∧ z ≤ 9223372036854775807) ∧ M = M') := by
  obtain ⟨hI, hW⟩ := hJ
  refine en_l (by decide +kernel) (fun ad => by exact Nat.le_of_ble_eq_true rfl) (fun D cy ad A p e s m args below meth c Q F hret => ?_)
  refine z_eq (ls' := [(0, .ref (ad 125)), (1, ll x0)]) rfl rfl rfl ?_
  refine z_aload_n F dX10_cut_0 rfl (q := 0) rfl ?_
  refine gf_X10_19 F hI gs_125 rfl bd_125_1 dX10_cut_1 (fun v1 ev1 av1 bv1 => ?_)
  rcases (show v1 = 0 ∨ v1 = 1 ∨ v1 = 2 ∨ (¬ v1 = 0 ∧ ¬ v1 = 1 ∧ ¬ v1 = 2) by omega) with c2 | c2 | c2 | c2
  · refine z_tabIn (tgt := 32) (off := 28) F dX10_cut_4 (by omega) (by omega) (by omega) (by rw [c2]; rfl) (by decide +kernel) ?_
    refine z_lload_n F dX10_cut_32 rfl (q := 1) rfl ?_
    refine z_l2i F dX10_cut_33 (by omega) ?_
    refine z_wrap (fun v3 rv3 wv3 => ?_)
    refine z_i2b F dX10_cut_34 (fun v4 ev4 av4 bv4 => ?_)
    refine z_i2l F dX10_cut_35 (by omega) ?_
    exact hret _ _ 36 _ (by omega) ⟨hI, hW⟩ ⟨⟨by omega, by omega⟩, rfl⟩ dX10_cut_36
  · refine z_tabIn (tgt := 37) (off := 33) F dX10_cut_4 (by omega) (by omega) (by omega) (by rw [c2]; rfl) (by decide +kernel) ?_
    refine z_lload_n F dX10_cut_37 rfl (q := 1) rfl ?_
    refine z_l2i F dX10_cut_38 (by omega) ?_
    refine z_wrap (fun v5 rv5 wv5 => ?_)
    refine z_i2s F dX10_cut_39 (fun v6 ev6 av6 bv6 => ?_)
    refine z_i2l F dX10_cut_40 (by omega) ?_
    exact hret _ _ 41 _ (by omega) ⟨hI, hW⟩ ⟨⟨by omega, by omega⟩, rfl⟩ dX10_cut_41
  · refine z_tabIn (tgt := 42) (off := 38) F dX10_cut_4 (by omega) (by omega) (by omega) (by rw [c2]; rfl) (by decide +kernel) ?_
    refine z_lload_n F dX10_cut_42 rfl (q := 1) rfl ?_
    refine z_l2i F dX10_cut_43 (by omega) ?_
    refine z_wrap (fun v7 rv7 wv7 => ?_)
    refine z_i2l F dX10_cut_44 (by omega) ?_
    exact hret _ _ 45 _ (by omega) ⟨hI, hW⟩ ⟨⟨by omega, by omega⟩, rfl⟩ dX10_cut_45
  · refine z_tabOut (tgt := 46) F dX10_cut_4 (by omega) (by omega) (by decide +kernel) ?_
    refine z_lload_n F dX10_cut_46 rfl (q := 1) rfl ?_
    exact hret _ _ 47 _ (by omega) ⟨hI, hW⟩ ⟨⟨by omega, by omega⟩, rfl⟩ dX10_cut_47
set_option maxRecDepth 4000 in
theorem k_X10_put_125 (l : Launch) (M : Mem) (hJ : Iw M) (x0 : Int) (hx0a : (-2147483648) ≤ x0) (hx0b : x0 ≤ 2147483647) (x1 : Int) (hx1a : (-9223372036854775808) ≤ x1) (hx1b : x1 ≤ 9223372036854775807) : CV l yX10_put cX10_put 4 none 2 (fun ad => [.ref (ad 125), ii x0, ll x1]) M (fun M' => Fr [126] M M') := by
  obtain ⟨hI, hW⟩ := hJ
  have hF : Fr [126] M M := Fr.rf
  refine en_v (by decide +kernel) (fun ad => by exact Nat.le_of_ble_eq_true rfl) (fun D cy ad A p e s m args below meth c Q F hret => ?_)
  refine z_eq (ls' := [(0, .ref (ad 125)), (1, ii x0), (2, ll x1)]) rfl rfl rfl ?_
  refine z_iload_n F dX10_put_0 rfl (q := 1) rfl ?_
  refine z_if_lt (tgt := 23) F dX10_put_1 (by decide +kernel) (by omega) (fun c1 => ?_) (fun c1 => ?_)
  · exact hret _ 23 _ ⟨hI, hW⟩ hF dX10_put_23
  · refine z_iload_n F dX10_put_4 rfl (q := 1) rfl ?_
    refine z_aload_n F dX10_put_5 rfl (q := 0) rfl ?_
    refine gf_X10_9 F hI gs_125 rfl bd_125_0 dX10_put_6 (fun v2 ev2 av2 bv2 => ?_)
    refine z_icmp_ge (tgt := 23) F dX10_put_9 (by decide +kernel) (by omega) (by omega) (fun c3 => ?_) (fun c3 => ?_)
    · exact hret _ 23 _ ⟨hI, hW⟩ hF dX10_put_23
    · refine z_aload_n F dX10_put_12 rfl (q := 0) rfl ?_
      refine rf_X10_15 F gs_125 rfl dX10_put_13 ?_
      refine z_iload_n F dX10_put_16 rfl (q := 1) rfl ?_
      refine z_aload_n F dX10_put_17 rfl (q := 0) rfl ?_
      refine z_lload_n F dX10_put_18 rfl (q := 2) rfl ?_
      refine zv_l (rest := [ii x0, .ref (ad 126)]) F (k_X10_cut_125 l M ⟨hI, hW⟩ x1 (by omega) (by omega)) cs_X10_26 (T := TX10) (N := 3) (ci := 10) rfl gs_125 (by decide) (by decide) rfl rfl rfl (Nat.le_of_ble_eq_true rfl) dX10_put_19 (fun v4 M5 rv4 hI p6 => ?_)
      obtain ⟨hI, hW⟩ := hI
      obtain ⟨⟨av4, bv4⟩, rfl⟩ := p6
      refine z_last F hI gs_126 (by omega) (by omega) (by decide) bd_126 dX10_put_22 (by omega) (by omega) (fun M8 hI sf7 f7 => ?_)
      have hF := hF.wr f7 (by decide) (by decide)
      have hW : WFk M8 := hW.site f7 (by decide)
      exact hret _ 23 _ ⟨hI, hW⟩ hF dX10_put_23
set_option maxRecDepth 4000 in
theorem k_X10_cut_127 (l : Launch) (M : Mem) (hJ : Iw M) (x0 : Int) (hx0a : (-9223372036854775808) ≤ x0) (hx0b : x0 ≤ 9223372036854775807) : CL l yX10_cut cX10_cut 3 (some .long) 1 (fun ad => [.ref (ad 127), ll x0]) M (fun z M' => ((-9223372036854775808) ≤ z ∧ z ≤ 9223372036854775807) ∧ M = M') := by
  obtain ⟨hI, hW⟩ := hJ
  refine en_l (by decide +kernel) (fun ad => by exact Nat.le_of_ble_eq_true rfl) (fun D cy ad A p e s m args below meth c Q F hret => ?_)
  refine z_eq (ls' := [(0, .ref (ad 127)), (1, ll x0)]) rfl rfl rfl ?_
  refine z_aload_n F dX10_cut_0 rfl (q := 0) rfl ?_
  refine gf_X10_19 F hI gs_127 rfl bd_127_1 dX10_cut_1 (fun v1 ev1 av1 bv1 => ?_)
  rcases (show v1 = 0 ∨ v1 = 1 ∨ v1 = 2 ∨ (¬ v1 = 0 ∧ ¬ v1 = 1 ∧ ¬ v1 = 2) by omega) with c2 | c2 | c2 | c2
  · refine z_tabIn (tgt := 32) (off := 28) F dX10_cut_4 (by omega) (by omega) (by omega) (by rw [c2]; rfl) (by decide +kernel) ?_
    refine z_lload_n F dX10_cut_32 rfl (q := 1) rfl ?_
    refine z_l2i F dX10_cut_33 (by omega) ?_
    refine z_wrap (fun v3 rv3 wv3 => ?_)
    refine z_i2b F dX10_cut_34 (fun v4 ev4 av4 bv4 => ?_)
    refine z_i2l F dX10_cut_35 (by omega) ?_
    exact hret _ _ 36 _ (by omega) ⟨hI, hW⟩ ⟨⟨by omega, by omega⟩, rfl⟩ dX10_cut_36
  · refine z_tabIn (tgt := 37) (off := 33) F dX10_cut_4 (by omega) (by omega) (by omega) (by rw [c2]; rfl) (by decide +kernel) ?_
    refine z_lload_n F dX10_cut_37 rfl (q := 1) rfl ?_
    refine z_l2i F dX10_cut_38 (by omega) ?_
    refine z_wrap (fun v5 rv5 wv5 => ?_)
    refine z_i2s F dX10_cut_39 (fun v6 ev6 av6 bv6 => ?_)
    refine z_i2l F dX10_cut_40 (by omega) ?_
    exact hret _ _ 41 _ (by omega) ⟨hI, hW⟩ ⟨⟨by omega, by omega⟩, rfl⟩ dX10_cut_41
  · refine z_tabIn (tgt := 42) (off := 38) F dX10_cut_4 (by omega) (by omega) (by omega) (by rw [c2]; rfl) (by decide +kernel) ?_
    refine z_lload_n F dX10_cut_42 rfl (q := 1) rfl ?_
    refine z_l2i F dX10_cut_43 (by omega) ?_
    refine z_wrap (fun v7 rv7 wv7 => ?_)
    refine z_i2l F dX10_cut_44 (by omega) ?_
    exact hret _ _ 45 _ (by omega) ⟨hI, hW⟩ ⟨⟨by omega, by omega⟩, rfl⟩ dX10_cut_45
  · refine z_tabOut (tgt := 46) F dX10_cut_4 (by omega) (by omega) (by decide +kernel) ?_
    refine z_lload_n F dX10_cut_46 rfl (q := 1) rfl ?_
    exact hret _ _ 47 _ (by omega) ⟨hI, hW⟩ ⟨⟨by omega, by omega⟩, rfl⟩ dX10_cut_47
set_option maxRecDepth 4000 in
theorem k_X10_put_127 (l : Launch) (M : Mem) (hJ : Iw M) (x0 : Int) (hx0a : (-2147483648) ≤ x0) (hx0b : x0 ≤ 2147483647) (x1 : Int) (hx1a : (-9223372036854775808) ≤ x1) (hx1b : x1 ≤ 9223372036854775807) : CV l yX10_put cX10_put 4 none 2 (fun ad => [.ref (ad 127), ii x0, ll x1]) M (fun M' => Fr [128] M M') := by
  obtain ⟨hI, hW⟩ := hJ
  have hF : Fr [128] M M := Fr.rf
  refine en_v (by decide +kernel) (fun ad => by exact Nat.le_of_ble_eq_true rfl) (fun D cy ad A p e s m args below meth c Q F hret => ?_)
  refine z_eq (ls' := [(0, .ref (ad 127)), (1, ii x0), (2, ll x1)]) rfl rfl rfl ?_
  refine z_iload_n F dX10_put_0 rfl (q := 1) rfl ?_
  refine z_if_lt (tgt := 23) F dX10_put_1 (by decide +kernel) (by omega) (fun c1 => ?_) (fun c1 => ?_)
  · exact hret _ 23 _ ⟨hI, hW⟩ hF dX10_put_23
  · refine z_iload_n F dX10_put_4 rfl (q := 1) rfl ?_
    refine z_aload_n F dX10_put_5 rfl (q := 0) rfl ?_
    refine gf_X10_9 F hI gs_127 rfl bd_127_0 dX10_put_6 (fun v2 ev2 av2 bv2 => ?_)
    refine z_icmp_ge (tgt := 23) F dX10_put_9 (by decide +kernel) (by omega) (by omega) (fun c3 => ?_) (fun c3 => ?_)
    · exact hret _ 23 _ ⟨hI, hW⟩ hF dX10_put_23
    · refine z_aload_n F dX10_put_12 rfl (q := 0) rfl ?_
      refine rf_X10_15 F gs_127 rfl dX10_put_13 ?_
      refine z_iload_n F dX10_put_16 rfl (q := 1) rfl ?_
      refine z_aload_n F dX10_put_17 rfl (q := 0) rfl ?_
      refine z_lload_n F dX10_put_18 rfl (q := 2) rfl ?_
      refine zv_l (rest := [ii x0, .ref (ad 128)]) F (k_X10_cut_127 l M ⟨hI, hW⟩ x1 (by omega) (by omega)) cs_X10_26 (T := TX10) (N := 3) (ci := 10) rfl gs_127 (by decide) (by decide) rfl rfl rfl (Nat.le_of_ble_eq_true rfl) dX10_put_19 (fun v4 M5 rv4 hI p6 => ?_)
      obtain ⟨hI, hW⟩ := hI
      obtain ⟨⟨av4, bv4⟩, rfl⟩ := p6
      refine z_last F hI gs_128 (by omega) (by omega) (by decide) bd_128 dX10_put_22 (by omega) (by omega) (fun M8 hI sf7 f7 => ?_)
      have hF := hF.wr f7 (by decide) (by decide)
      have hW : WFk M8 := hW.site f7 (by decide)
      exact hret _ 23 _ ⟨hI, hW⟩ hF dX10_put_23
set_option maxRecDepth 4000 in
theorem k_X10_cut_129 (l : Launch) (M : Mem) (hJ : Iw M) (x0 : Int) (hx0a : (-9223372036854775808) ≤ x0) (hx0b : x0 ≤ 9223372036854775807) : CL l yX10_cut cX10_cut 3 (some .long) 1 (fun ad => [.ref (ad 129), ll x0]) M (fun z M' => ((-9223372036854775808) ≤ z ∧ z ≤ 9223372036854775807) ∧ M = M') := by
  obtain ⟨hI, hW⟩ := hJ
  refine en_l (by decide +kernel) (fun ad => by exact Nat.le_of_ble_eq_true rfl) (fun D cy ad A p e s m args below meth c Q F hret => ?_)
  refine z_eq (ls' := [(0, .ref (ad 129)), (1, ll x0)]) rfl rfl rfl ?_
  refine z_aload_n F dX10_cut_0 rfl (q := 0) rfl ?_
  refine gf_X10_19 F hI gs_129 rfl bd_129_1 dX10_cut_1 (fun v1 ev1 av1 bv1 => ?_)
  rcases (show v1 = 0 ∨ v1 = 1 ∨ v1 = 2 ∨ (¬ v1 = 0 ∧ ¬ v1 = 1 ∧ ¬ v1 = 2) by omega) with c2 | c2 | c2 | c2
  · refine z_tabIn (tgt := 32) (off := 28) F dX10_cut_4 (by omega) (by omega) (by omega) (by rw [c2]; rfl) (by decide +kernel) ?_
    refine z_lload_n F dX10_cut_32 rfl (q := 1) rfl ?_
    refine z_l2i F dX10_cut_33 (by omega) ?_
    refine z_wrap (fun v3 rv3 wv3 => ?_)
    refine z_i2b F dX10_cut_34 (fun v4 ev4 av4 bv4 => ?_)
    refine z_i2l F dX10_cut_35 (by omega) ?_
    exact hret _ _ 36 _ (by omega) ⟨hI, hW⟩ ⟨⟨by omega, by omega⟩, rfl⟩ dX10_cut_36
  · refine z_tabIn (tgt := 37) (off := 33) F dX10_cut_4 (by omega) (by omega) (by omega) (by rw [c2]; rfl) (by decide +kernel) ?_
    refine z_lload_n F dX10_cut_37 rfl (q := 1) rfl ?_
    refine z_l2i F dX10_cut_38 (by omega) ?_
    refine z_wrap (fun v5 rv5 wv5 => ?_)
    refine z_i2s F dX10_cut_39 (fun v6 ev6 av6 bv6 => ?_)
    refine z_i2l F dX10_cut_40 (by omega) ?_
    exact hret _ _ 41 _ (by omega) ⟨hI, hW⟩ ⟨⟨by omega, by omega⟩, rfl⟩ dX10_cut_41
  · refine z_tabIn (tgt := 42) (off := 38) F dX10_cut_4 (by omega) (by omega) (by omega) (by rw [c2]; rfl) (by decide +kernel) ?_
    refine z_lload_n F dX10_cut_42 rfl (q := 1) rfl ?_
    refine z_l2i F dX10_cut_43 (by omega) ?_
    refine z_wrap (fun v7 rv7 wv7 => ?_)
    refine z_i2l F dX10_cut_44 (by omega) ?_
    exact hret _ _ 45 _ (by omega) ⟨hI, hW⟩ ⟨⟨by omega, by omega⟩, rfl⟩ dX10_cut_45
  · refine z_tabOut (tgt := 46) F dX10_cut_4 (by omega) (by omega) (by decide +kernel) ?_
    refine z_lload_n F dX10_cut_46 rfl (q := 1) rfl ?_
    exact hret _ _ 47 _ (by omega) ⟨hI, hW⟩ ⟨⟨by omega, by omega⟩, rfl⟩ dX10_cut_47
set_option maxRecDepth 4000 in
theorem k_X10_put_129 (l : Launch) (M : Mem) (hJ : Iw M) (x0 : Int) (hx0a : (-2147483648) ≤ x0) (hx0b : x0 ≤ 2147483647) (x1 : Int) (hx1a : (-9223372036854775808) ≤ x1) (hx1b : x1 ≤ 9223372036854775807) : CV l yX10_put cX10_put 4 none 2 (fun ad => [.ref (ad 129), ii x0, ll x1]) M (fun M' => Fr [130] M M') := by
  obtain ⟨hI, hW⟩ := hJ
  have hF : Fr [130] M M := Fr.rf
  refine en_v (by decide +kernel) (fun ad => by exact Nat.le_of_ble_eq_true rfl) (fun D cy ad A p e s m args below meth c Q F hret => ?_)
  refine z_eq (ls' := [(0, .ref (ad 129)), (1, ii x0), (2, ll x1)]) rfl rfl rfl ?_
  refine z_iload_n F dX10_put_0 rfl (q := 1) rfl ?_
  refine z_if_lt (tgt := 23) F dX10_put_1 (by decide +kernel) (by omega) (fun c1 => ?_) (fun c1 => ?_)
  · exact hret _ 23 _ ⟨hI, hW⟩ hF dX10_put_23
  · refine z_iload_n F dX10_put_4 rfl (q := 1) rfl ?_
    refine z_aload_n F dX10_put_5 rfl (q := 0) rfl ?_
    refine gf_X10_9 F hI gs_129 rfl bd_129_0 dX10_put_6 (fun v2 ev2 av2 bv2 => ?_)
    refine z_icmp_ge (tgt := 23) F dX10_put_9 (by decide +kernel) (by omega) (by omega) (fun c3 => ?_) (fun c3 => ?_)
    · exact hret _ 23 _ ⟨hI, hW⟩ hF dX10_put_23
    · refine z_aload_n F dX10_put_12 rfl (q := 0) rfl ?_
      refine rf_X10_15 F gs_129 rfl dX10_put_13 ?_
      refine z_iload_n F dX10_put_16 rfl (q := 1) rfl ?_
      refine z_aload_n F dX10_put_17 rfl (q := 0) rfl ?_
      refine z_lload_n F dX10_put_18 rfl (q := 2) rfl ?_
      refine zv_l (rest := [ii x0, .ref (ad 130)]) F (k_X10_cut_129 l M ⟨hI, hW⟩ x1 (by omega) (by omega)) cs_X10_26 (T := TX10) (N := 3) (ci := 10) rfl gs_129 (by decide) (by decide) rfl rfl rfl (Nat.le_of_ble_eq_true rfl) dX10_put_19 (fun v4 M5 rv4 hI p6 => ?_)
      obtain ⟨hI, hW⟩ := hI
      obtain ⟨⟨av4, bv4⟩, rfl⟩ := p6
      refine z_last F hI gs_130 (by omega) (by omega) (by decide) bd_130 dX10_put_22 (by omega) (by omega) (fun M8 hI sf7 f7 => ?_)
      have hF := hF.wr f7 (by decide) (by decide)
      have hW : WFk M8 := hW.site f7 (by decide)
      exact hret _ 23 _ ⟨hI, hW⟩ hF dX10_put_23
set_option maxRecDepth 4000 in
theorem k_X11_write (l : Launch) (hlT : l.stackTraces = false) (M : Mem) (hJ : Iw M) (x0 : Int) (hx0a : (-2147483648) ≤ x0) (hx0b : x0 ≤ 2147483647) (x1 : Int) (hx1a : (-2147483648) ≤ x1) (hx1b : x1 ≤ 2147483647) (x2 : Int) (hx2a : (-9223372036854775808) ≤ x2) (hx2b : x2 ≤ 9223372036854775807) : CLX l yX11_write cX11_write 6 (some .long) 3 3 (fun ad => [.ref (ad 0), ii x0, ii x1, ll x2]) M (fun z M' => ((-9223372036854775808) ≤ z ∧ z ≤ 9223372036854775807) ∧ Fr [124, 126, 128, 130] M M') (fun E M' => (E = "java/lang/IllegalStateException" ∧ True ∧ Fr [124, 126, 128, 130] M M') ∨ (E = "java/lang/IndexOutOfBoundsException" ∧ True ∧ Fr [124, 126, 128, 130] M M') ∨ (E = "java/util/NoSuchElementException" ∧ True ∧ Fr [124, 126, 128, 130] M M')) := by
  obtain ⟨hI, hW⟩ := hJ
  have hF : Fr [124, 126, 128, 130] M M := Fr.rf
  refine enx_l (by decide +kernel) (fun ad => by exact Nat.le_of_ble_eq_true rfl) (fun D cy ad A p e s m args below meth c Q F hQ hr hlk hex => ?_)
  refine z_eq (ls' := [(0, .ref (ad 0)), (1, ii x0), (2, ii x1), (3, ll x2)]) rfl rfl rfl ?_
  refine z_aload_n F dX11_write_0 rfl (q := 0) rfl ?_
  refine z_iload_n F dX11_write_1 rfl (q := 1) rfl ?_
  rcases (show x0 = 0 ∨ x0 = 1 ∨ x0 = 2 ∨ x0 = 3 ∨ (x0 < 0 ∨ 3 < x0) by omega) with c1 | c1 | c1 | c1 | c1
  · refine zy_r (rest := []) F (k_X11_filledTray_t0 l hlT M ⟨hI, hW⟩ x0 (by omega) (by omega)) cs_X11_248 (T := TX11) (N := 14) (ci := 11) rfl gs_0 (by decide) (by decide) ⟨by decide, by decide⟩ rfl rfl rfl (Nat.le_of_ble_eq_true rfl) dX11_write_2 (fun E M9 hJ9 hx => by rcases hx with ⟨h9, g9, rfl⟩ | ⟨h9, g9, rfl⟩ <;> first | (exact zx_out hQ hlk hex ⟨by decide, by decide⟩ hJ9 (Or.inl ⟨h9, trivial, hF⟩)) | (exact zx_out hQ hlk hex ⟨by decide, by decide⟩ hJ9 (Or.inr (Or.inr (⟨h9, trivial, hF⟩))))) (fun M2 hI p3 => ?_)
    obtain ⟨hI, hW⟩ := hI
    obtain rfl := p3
    refine z_astore F dX11_write_5 (by decide) (ls' := [(5, .ref (ad 123)), (0, .ref (ad 0)), (1, ii x0), (2, ii x1), (3, ll x2)]) rfl ?_
    refine z_iload_n F dX11_write_7 rfl (q := 3) rfl ?_
    refine z_if_lt (tgt := 20) F dX11_write_8 (by decide +kernel) (by omega) (fun c4 => ?_) (fun c4 => ?_)
    · exact z_thrSW (cls := "java/lang/IndexOutOfBoundsException") (names := ["java/lang/RuntimeException", "java/lang/Exception"]) (j := 54) F hlT hQ hlk hex (by decide +kernel) (by decide +kernel) (by decide) (gin lm_932 rfl) (gin lm_933 rfl) at_X11_460 bad_X11_460 (by decide +kernel) ot_X11_460 rfl rfl rfl dX11_write_20 dX11_write_23 dX11_write_24 dX11_write_27 dX11_write_30 ⟨by decide, by decide⟩ (Nat.le_of_ble_eq_true rfl) ⟨hI, hW⟩ (Or.inr (Or.inl ⟨rfl, trivial, hF⟩))
    · refine z_iload_n F dX11_write_11 rfl (q := 3) rfl ?_
      refine z_aload F dX11_write_12 (q := 0) rfl ?_
      refine gf_X11_266 F hI gs_123 rfl bd_123_0 dX11_write_14 (fun v5 ev5 av5 bv5 => ?_)
      refine z_icmp_lt (tgt := 31) F dX11_write_17 (by decide +kernel) (by omega) (by omega) (fun c6 => ?_) (fun c6 => ?_)
      · refine z_aload F dX11_write_31 (q := 0) rfl ?_
        refine z_iload_n F dX11_write_33 rfl (q := 3) rfl ?_
        refine z_lload_n F dX11_write_34 rfl (q := 4) rfl ?_
        refine zw_v (rest := []) F (k_X10_put_123 l M ⟨hI, hW⟩ x1 (by omega) (by omega) x2 (by omega) (by omega)) cs_X11_461 (T := TX10) (N := 3) (ci := 10) rfl gs_123 (by decide) (by decide) ⟨by decide, by decide⟩ rfl rfl rfl (Nat.le_of_ble_eq_true rfl) dX11_write_35 (fun M7 hI p8 => ?_)
        obtain ⟨hI, hW⟩ := hI
        have fp8 := p8
        have hF := hF.call fp8 (by decide)
        refine z_aload F dX11_write_38 (q := 0) rfl ?_
        refine z_iload_n F dX11_write_40 rfl (q := 3) rfl ?_
        refine zw_l (rest := []) F (k_X10_numberAt_123 l M7 ⟨hI, hW⟩ x1 (by omega) (by omega)) cs_X11_267 (T := TX10) (N := 3) (ci := 10) rfl gs_123 (by decide) (by decide) ⟨by decide, by decide⟩ rfl rfl rfl (Nat.le_of_ble_eq_true rfl) dX11_write_41 (fun v9 M10 rv9 hI p11 => ?_)
        obtain ⟨hI, hW⟩ := hI
        obtain ⟨⟨av9, bv9⟩, rfl⟩ := p11
        exact zxr_l F hQ hr hlk dX11_write_44 ⟨by decide, by decide⟩ (by omega) ⟨hI, hW⟩ ⟨⟨by omega, by omega⟩, hF⟩
      · exact z_thrSW (cls := "java/lang/IndexOutOfBoundsException") (names := ["java/lang/RuntimeException", "java/lang/Exception"]) (j := 54) F hlT hQ hlk hex (by decide +kernel) (by decide +kernel) (by decide) (gin lm_932 rfl) (gin lm_933 rfl) at_X11_460 bad_X11_460 (by decide +kernel) ot_X11_460 rfl rfl rfl dX11_write_20 dX11_write_23 dX11_write_24 dX11_write_27 dX11_write_30 ⟨by decide, by decide⟩ (Nat.le_of_ble_eq_true rfl) ⟨hI, hW⟩ (Or.inr (Or.inl ⟨rfl, trivial, hF⟩))
  · refine zy_r (rest := []) F (k_X11_filledTray_t1 l hlT M ⟨hI, hW⟩ x0 (by omega) (by omega)) cs_X11_248 (T := TX11) (N := 14) (ci := 11) rfl gs_0 (by decide) (by decide) ⟨by decide, by decide⟩ rfl rfl rfl (Nat.le_of_ble_eq_true rfl) dX11_write_2 (fun E M9 hJ9 hx => by rcases hx with ⟨h9, g9, rfl⟩ | ⟨h9, g9, rfl⟩ <;> first | (exact zx_out hQ hlk hex ⟨by decide, by decide⟩ hJ9 (Or.inl ⟨h9, trivial, hF⟩)) | (exact zx_out hQ hlk hex ⟨by decide, by decide⟩ hJ9 (Or.inr (Or.inr (⟨h9, trivial, hF⟩))))) (fun M12 hI p13 => ?_)
    obtain ⟨hI, hW⟩ := hI
    obtain rfl := p13
    refine z_astore F dX11_write_5 (by decide) (ls' := [(5, .ref (ad 125)), (0, .ref (ad 0)), (1, ii x0), (2, ii x1), (3, ll x2)]) rfl ?_
    refine z_iload_n F dX11_write_7 rfl (q := 3) rfl ?_
    refine z_if_lt (tgt := 20) F dX11_write_8 (by decide +kernel) (by omega) (fun c14 => ?_) (fun c14 => ?_)
    · exact z_thrSW (cls := "java/lang/IndexOutOfBoundsException") (names := ["java/lang/RuntimeException", "java/lang/Exception"]) (j := 54) F hlT hQ hlk hex (by decide +kernel) (by decide +kernel) (by decide) (gin lm_932 rfl) (gin lm_933 rfl) at_X11_460 bad_X11_460 (by decide +kernel) ot_X11_460 rfl rfl rfl dX11_write_20 dX11_write_23 dX11_write_24 dX11_write_27 dX11_write_30 ⟨by decide, by decide⟩ (Nat.le_of_ble_eq_true rfl) ⟨hI, hW⟩ (Or.inr (Or.inl ⟨rfl, trivial, hF⟩))
    · refine z_iload_n F dX11_write_11 rfl (q := 3) rfl ?_
      refine z_aload F dX11_write_12 (q := 0) rfl ?_
      refine gf_X11_266 F hI gs_125 rfl bd_125_0 dX11_write_14 (fun v15 ev15 av15 bv15 => ?_)
      refine z_icmp_lt (tgt := 31) F dX11_write_17 (by decide +kernel) (by omega) (by omega) (fun c16 => ?_) (fun c16 => ?_)
      · refine z_aload F dX11_write_31 (q := 0) rfl ?_
        refine z_iload_n F dX11_write_33 rfl (q := 3) rfl ?_
        refine z_lload_n F dX11_write_34 rfl (q := 4) rfl ?_
        refine zw_v (rest := []) F (k_X10_put_125 l M ⟨hI, hW⟩ x1 (by omega) (by omega) x2 (by omega) (by omega)) cs_X11_461 (T := TX10) (N := 3) (ci := 10) rfl gs_125 (by decide) (by decide) ⟨by decide, by decide⟩ rfl rfl rfl (Nat.le_of_ble_eq_true rfl) dX11_write_35 (fun M17 hI p18 => ?_)
        obtain ⟨hI, hW⟩ := hI
        have fp18 := p18
        have hF := hF.call fp18 (by decide)
        refine z_aload F dX11_write_38 (q := 0) rfl ?_
        refine z_iload_n F dX11_write_40 rfl (q := 3) rfl ?_
        refine zw_l (rest := []) F (k_X10_numberAt_125 l M17 ⟨hI, hW⟩ x1 (by omega) (by omega)) cs_X11_267 (T := TX10) (N := 3) (ci := 10) rfl gs_125 (by decide) (by decide) ⟨by decide, by decide⟩ rfl rfl rfl (Nat.le_of_ble_eq_true rfl) dX11_write_41 (fun v19 M20 rv19 hI p21 => ?_)
        obtain ⟨hI, hW⟩ := hI
        obtain ⟨⟨av19, bv19⟩, rfl⟩ := p21
        exact zxr_l F hQ hr hlk dX11_write_44 ⟨by decide, by decide⟩ (by omega) ⟨hI, hW⟩ ⟨⟨by omega, by omega⟩, hF⟩
      · exact z_thrSW (cls := "java/lang/IndexOutOfBoundsException") (names := ["java/lang/RuntimeException", "java/lang/Exception"]) (j := 54) F hlT hQ hlk hex (by decide +kernel) (by decide +kernel) (by decide) (gin lm_932 rfl) (gin lm_933 rfl) at_X11_460 bad_X11_460 (by decide +kernel) ot_X11_460 rfl rfl rfl dX11_write_20 dX11_write_23 dX11_write_24 dX11_write_27 dX11_write_30 ⟨by decide, by decide⟩ (Nat.le_of_ble_eq_true rfl) ⟨hI, hW⟩ (Or.inr (Or.inl ⟨rfl, trivial, hF⟩))
  · refine zy_r (rest := []) F (k_X11_filledTray_t2 l hlT M ⟨hI, hW⟩ x0 (by omega) (by omega)) cs_X11_248 (T := TX11) (N := 14) (ci := 11) rfl gs_0 (by decide) (by decide) ⟨by decide, by decide⟩ rfl rfl rfl (Nat.le_of_ble_eq_true rfl) dX11_write_2 (fun E M9 hJ9 hx => by rcases hx with ⟨h9, g9, rfl⟩ | ⟨h9, g9, rfl⟩ <;> first | (exact zx_out hQ hlk hex ⟨by decide, by decide⟩ hJ9 (Or.inl ⟨h9, trivial, hF⟩)) | (exact zx_out hQ hlk hex ⟨by decide, by decide⟩ hJ9 (Or.inr (Or.inr (⟨h9, trivial, hF⟩))))) (fun M22 hI p23 => ?_)
    obtain ⟨hI, hW⟩ := hI
    obtain rfl := p23
    refine z_astore F dX11_write_5 (by decide) (ls' := [(5, .ref (ad 127)), (0, .ref (ad 0)), (1, ii x0), (2, ii x1), (3, ll x2)]) rfl ?_
    refine z_iload_n F dX11_write_7 rfl (q := 3) rfl ?_
    refine z_if_lt (tgt := 20) F dX11_write_8 (by decide +kernel) (by omega) (fun c24 => ?_) (fun c24 => ?_)
    · exact z_thrSW (cls := "java/lang/IndexOutOfBoundsException") (names := ["java/lang/RuntimeException", "java/lang/Exception"]) (j := 54) F hlT hQ hlk hex (by decide +kernel) (by decide +kernel) (by decide) (gin lm_932 rfl) (gin lm_933 rfl) at_X11_460 bad_X11_460 (by decide +kernel) ot_X11_460 rfl rfl rfl dX11_write_20 dX11_write_23 dX11_write_24 dX11_write_27 dX11_write_30 ⟨by decide, by decide⟩ (Nat.le_of_ble_eq_true rfl) ⟨hI, hW⟩ (Or.inr (Or.inl ⟨rfl, trivial, hF⟩))
    · refine z_iload_n F dX11_write_11 rfl (q := 3) rfl ?_
      refine z_aload F dX11_write_12 (q := 0) rfl ?_
      refine gf_X11_266 F hI gs_127 rfl bd_127_0 dX11_write_14 (fun v25 ev25 av25 bv25 => ?_)
      refine z_icmp_lt (tgt := 31) F dX11_write_17 (by decide +kernel) (by omega) (by omega) (fun c26 => ?_) (fun c26 => ?_)
      · refine z_aload F dX11_write_31 (q := 0) rfl ?_
        refine z_iload_n F dX11_write_33 rfl (q := 3) rfl ?_
        refine z_lload_n F dX11_write_34 rfl (q := 4) rfl ?_
        refine zw_v (rest := []) F (k_X10_put_127 l M ⟨hI, hW⟩ x1 (by omega) (by omega) x2 (by omega) (by omega)) cs_X11_461 (T := TX10) (N := 3) (ci := 10) rfl gs_127 (by decide) (by decide) ⟨by decide, by decide⟩ rfl rfl rfl (Nat.le_of_ble_eq_true rfl) dX11_write_35 (fun M27 hI p28 => ?_)
        obtain ⟨hI, hW⟩ := hI
        have fp28 := p28
        have hF := hF.call fp28 (by decide)
        refine z_aload F dX11_write_38 (q := 0) rfl ?_
        refine z_iload_n F dX11_write_40 rfl (q := 3) rfl ?_
        refine zw_l (rest := []) F (k_X10_numberAt_127 l M27 ⟨hI, hW⟩ x1 (by omega) (by omega)) cs_X11_267 (T := TX10) (N := 3) (ci := 10) rfl gs_127 (by decide) (by decide) ⟨by decide, by decide⟩ rfl rfl rfl (Nat.le_of_ble_eq_true rfl) dX11_write_41 (fun v29 M30 rv29 hI p31 => ?_)
        obtain ⟨hI, hW⟩ := hI
        obtain ⟨⟨av29, bv29⟩, rfl⟩ := p31
        exact zxr_l F hQ hr hlk dX11_write_44 ⟨by decide, by decide⟩ (by omega) ⟨hI, hW⟩ ⟨⟨by omega, by omega⟩, hF⟩
      · exact z_thrSW (cls := "java/lang/IndexOutOfBoundsException") (names := ["java/lang/RuntimeException", "java/lang/Exception"]) (j := 54) F hlT hQ hlk hex (by decide +kernel) (by decide +kernel) (by decide) (gin lm_932 rfl) (gin lm_933 rfl) at_X11_460 bad_X11_460 (by decide +kernel) ot_X11_460 rfl rfl rfl dX11_write_20 dX11_write_23 dX11_write_24 dX11_write_27 dX11_write_30 ⟨by decide, by decide⟩ (Nat.le_of_ble_eq_true rfl) ⟨hI, hW⟩ (Or.inr (Or.inl ⟨rfl, trivial, hF⟩))
  · refine zy_r (rest := []) F (k_X11_filledTray_t3 l hlT M ⟨hI, hW⟩ x0 (by omega) (by omega)) cs_X11_248 (T := TX11) (N := 14) (ci := 11) rfl gs_0 (by decide) (by decide) ⟨by decide, by decide⟩ rfl rfl rfl (Nat.le_of_ble_eq_true rfl) dX11_write_2 (fun E M9 hJ9 hx => by rcases hx with ⟨h9, g9, rfl⟩ | ⟨h9, g9, rfl⟩ <;> first | (exact zx_out hQ hlk hex ⟨by decide, by decide⟩ hJ9 (Or.inl ⟨h9, trivial, hF⟩)) | (exact zx_out hQ hlk hex ⟨by decide, by decide⟩ hJ9 (Or.inr (Or.inr (⟨h9, trivial, hF⟩))))) (fun M32 hI p33 => ?_)
    obtain ⟨hI, hW⟩ := hI
    obtain rfl := p33
    refine z_astore F dX11_write_5 (by decide) (ls' := [(5, .ref (ad 129)), (0, .ref (ad 0)), (1, ii x0), (2, ii x1), (3, ll x2)]) rfl ?_
    refine z_iload_n F dX11_write_7 rfl (q := 3) rfl ?_
    refine z_if_lt (tgt := 20) F dX11_write_8 (by decide +kernel) (by omega) (fun c34 => ?_) (fun c34 => ?_)
    · exact z_thrSW (cls := "java/lang/IndexOutOfBoundsException") (names := ["java/lang/RuntimeException", "java/lang/Exception"]) (j := 54) F hlT hQ hlk hex (by decide +kernel) (by decide +kernel) (by decide) (gin lm_932 rfl) (gin lm_933 rfl) at_X11_460 bad_X11_460 (by decide +kernel) ot_X11_460 rfl rfl rfl dX11_write_20 dX11_write_23 dX11_write_24 dX11_write_27 dX11_write_30 ⟨by decide, by decide⟩ (Nat.le_of_ble_eq_true rfl) ⟨hI, hW⟩ (Or.inr (Or.inl ⟨rfl, trivial, hF⟩))
    · refine z_iload_n F dX11_write_11 rfl (q := 3) rfl ?_
      refine z_aload F dX11_write_12 (q := 0) rfl ?_
      refine gf_X11_266 F hI gs_129 rfl bd_129_0 dX11_write_14 (fun v35 ev35 av35 bv35 => ?_)
      refine z_icmp_lt (tgt := 31) F dX11_write_17 (by decide +kernel) (by omega) (by omega) (fun c36 => ?_) (fun c36 => ?_)
      · refine z_aload F dX11_write_31 (q := 0) rfl ?_
        refine z_iload_n F dX11_write_33 rfl (q := 3) rfl ?_
        refine z_lload_n F dX11_write_34 rfl (q := 4) rfl ?_
        refine zw_v (rest := []) F (k_X10_put_129 l M ⟨hI, hW⟩ x1 (by omega) (by omega) x2 (by omega) (by omega)) cs_X11_461 (T := TX10) (N := 3) (ci := 10) rfl gs_129 (by decide) (by decide) ⟨by decide, by decide⟩ rfl rfl rfl (Nat.le_of_ble_eq_true rfl) dX11_write_35 (fun M37 hI p38 => ?_)
        obtain ⟨hI, hW⟩ := hI
        have fp38 := p38
        have hF := hF.call fp38 (by decide)
        refine z_aload F dX11_write_38 (q := 0) rfl ?_
        refine z_iload_n F dX11_write_40 rfl (q := 3) rfl ?_
        refine zw_l (rest := []) F (k_X10_numberAt_129 l M37 ⟨hI, hW⟩ x1 (by omega) (by omega)) cs_X11_267 (T := TX10) (N := 3) (ci := 10) rfl gs_129 (by decide) (by decide) ⟨by decide, by decide⟩ rfl rfl rfl (Nat.le_of_ble_eq_true rfl) dX11_write_41 (fun v39 M40 rv39 hI p41 => ?_)
        obtain ⟨hI, hW⟩ := hI
        obtain ⟨⟨av39, bv39⟩, rfl⟩ := p41
        exact zxr_l F hQ hr hlk dX11_write_44 ⟨by decide, by decide⟩ (by omega) ⟨hI, hW⟩ ⟨⟨by omega, by omega⟩, hF⟩
      · exact z_thrSW (cls := "java/lang/IndexOutOfBoundsException") (names := ["java/lang/RuntimeException", "java/lang/Exception"]) (j := 54) F hlT hQ hlk hex (by decide +kernel) (by decide +kernel) (by decide) (gin lm_932 rfl) (gin lm_933 rfl) at_X11_460 bad_X11_460 (by decide +kernel) ot_X11_460 rfl rfl rfl dX11_write_20 dX11_write_23 dX11_write_24 dX11_write_27 dX11_write_30 ⟨by decide, by decide⟩ (Nat.le_of_ble_eq_true rfl) ⟨hI, hW⟩ (Or.inr (Or.inl ⟨rfl, trivial, hF⟩))
  · refine zy_r (rest := []) F (k_X11_filledTray_to l hlT M ⟨hI, hW⟩ x0 (by omega) (by omega) (by omega)) cs_X11_248 (T := TX11) (N := 14) (ci := 11) rfl gs_0 (by decide) (by decide) ⟨by decide, by decide⟩ rfl rfl rfl (Nat.le_of_ble_eq_true rfl) dX11_write_2 (fun E M9 hJ9 hx => by obtain ⟨h9, g9, rfl⟩ := hx <;> first | (exact zx_out hQ hlk hex ⟨by decide, by decide⟩ hJ9 (Or.inr (Or.inr (⟨h9, trivial, hF⟩))))) (fun M42 hI p43 => ?_)
    obtain ⟨hI, hW⟩ := hI
    obtain ⟨rfl, xp43⟩ := p43
    exact xp43.elim
set_option maxRecDepth 4000 in
theorem k_X11_pour (l : Launch) (hlT : l.stackTraces = false) (M : Mem) (hJ : Iw M) (x0 : Int) (hx0a : (-2147483648) ≤ x0) (hx0b : x0 ≤ 2147483647) : CIX l yX11_pour cX11_pour 5 (some .int) 3 2 (fun ad => [.ref (ad 0), ii x0]) M (fun z M' => ((-1) ≤ z ∧ z ≤ 8) ∧ Fr [124, 126, 128, 130] M M') (fun E M' => (E = "java/lang/IllegalStateException" ∧ True ∧ Fr [124, 126, 128, 130] M M') ∨ (E = "java/util/NoSuchElementException" ∧ True ∧ Fr [124, 126, 128, 130] M M')) := by
  obtain ⟨hI, hW⟩ := hJ
  have hF : Fr [124, 126, 128, 130] M M := Fr.rf
  refine enx_i (by decide +kernel) (fun ad => by exact Nat.le_of_ble_eq_true rfl) (fun D cy ad A p e s m args below meth c Q F hQ hr hlk hex => ?_)
  refine z_eq (ls' := [(0, .ref (ad 0)), (1, ii x0)]) rfl rfl rfl ?_
  refine z_aload_n F dX11_pour_0 rfl (q := 0) rfl ?_
  refine z_iload_n F dX11_pour_1 rfl (q := 1) rfl ?_
  rcases (show x0 = 0 ∨ x0 = 1 ∨ x0 = 2 ∨ x0 = 3 ∨ (x0 < 0 ∨ 3 < x0) by omega) with c1 | c1 | c1 | c1 | c1
  · refine zy_r (rest := []) F (k_X11_filledTray_t0 l hlT M ⟨hI, hW⟩ x0 (by omega) (by omega)) cs_X11_248 (T := TX11) (N := 14) (ci := 11) rfl gs_0 (by decide) (by decide) ⟨by decide, by decide⟩ rfl rfl rfl (Nat.le_of_ble_eq_true rfl) dX11_pour_2 (fun E M9 hJ9 hx => by rcases hx with ⟨h9, g9, rfl⟩ | ⟨h9, g9, rfl⟩ <;> first | (exact zx_out hQ hlk hex ⟨by decide, by decide⟩ hJ9 (Or.inl ⟨h9, trivial, hF⟩)) | (exact zx_out hQ hlk hex ⟨by decide, by decide⟩ hJ9 (Or.inr (⟨h9, trivial, hF⟩)))) (fun M2 hI p3 => ?_)
    obtain ⟨hI, hW⟩ := hI
    obtain rfl := p3
    refine z_astore_n F dX11_pour_5 rfl (by decide) (ls' := [(2, .ref (ad 123)), (0, .ref (ad 0)), (1, ii x0)]) rfl ?_
    refine z_aload_n F dX11_pour_6 rfl (q := 0) rfl ?_
    refine gf_X11_266 F hI gs_123 rfl bd_123_0 dX11_pour_7 (fun v4 ev4 av4 bv4 => ?_)
    refine z_aload_n F dX11_pour_10 rfl (q := 1) rfl ?_
    refine rf_X11_16 F gs_0 rfl dX11_pour_11 ?_
    refine gf_X11_286 F hI gs_2 rfl bd_2_3 dX11_pour_14 (fun v5 ev5 av5 bv5 => ?_)
    refine z_minX F mm_X11_465 (Nat.le_of_ble_eq_true rfl) dX11_pour_17 ⟨by decide, by decide⟩ (by omega) (by omega) (fun v6 ev6 => ?_)
    refine z_istore_n F dX11_pour_20 rfl (by decide) (ls' := [(3, ii v6), (2, .ref (ad 123)), (0, .ref (ad 0)), (1, ii x0)]) rfl ?_
    refine z_iconst F dX11_pour_21 ?_
    refine z_istore F dX11_pour_22 (by decide) (ls' := [(4, ii 0), (3, ii v6), (2, .ref (ad 123)), (0, .ref (ad 0)), (1, ii x0)]) rfl ?_
    refine z_loc [3, 2, 1, 0] (ls' := [(0, .ref (ad 0)), (2, .ref (ad 123)), (3, ii v6), (4, ii 0)]) rfl ?_
    suffices key24 : ∀ (n : Nat) (y8 : Int) (M7 : Mem), Inv M7 → WFk M7 → Fr [124, 126, 128, 130] M M7 → 0 ≤ y8 → y8 ≤ 8 → 8 - y8 < (n : Int) → Z D cy ad p l e (RMx 3 2) s m args below meth c A 5 2 12 Q 24 [(0, .ref (ad 0)), (2, .ref (ad 123)), (3, ii v6), (4, ii y8)] [] M7 from key24 9 0 M hI hW hF (by omega) (by omega) (by omega)
    intro n24
    induction n24 with
    | zero => intro y8 M7 hI hW hF ay8 by8 hn24; exfalso; omega
    | succ n24 ih24 =>
      intro y8 M7 hI hW hF ay8 by8 hn24
      refine z_iload F dX11_pour_24 (q := 3) rfl ?_
      refine z_iload_n F dX11_pour_26 rfl (q := 2) rfl ?_
      refine z_icmp_ge (tgt := 53) F dX11_pour_27 (by decide +kernel) (by omega) (by omega) (fun c9 => ?_) (fun c9 => ?_)
      · refine z_iload_n F dX11_pour_53 rfl (q := 2) rfl ?_
        exact zxr_i F hQ hr hlk dX11_pour_54 ⟨by decide, by decide⟩ (by omega) ⟨hI, hW⟩ ⟨⟨by omega, by omega⟩, hF⟩
      · refine z_aload_n F dX11_pour_30 rfl (q := 1) rfl ?_
        refine z_iload F dX11_pour_31 (q := 3) rfl ?_
        refine z_aload_n F dX11_pour_33 rfl (q := 0) rfl ?_
        refine rf_X11_34 F gs_0 rfl dX11_pour_34 ?_
        refine rf_X11_135 F gs_35 rfl dX11_pour_37 ?_
        refine z_iload F dX11_pour_40 (q := 3) rfl ?_
        refine z_iald F hI gs_36 (by omega) (by omega) (by decide) bd_36 dX11_pour_42 (fun v10 (ev10 : v10 = M7 36 _) av10 bv10 => ?_)
        refine z_i2l F dX11_pour_43 (by omega) ?_
        refine zw_v (rest := []) F (k_X10_put_123 l M7 ⟨hI, hW⟩ y8 (by omega) (by omega) v10 (by omega) (by omega)) cs_X11_461 (T := TX10) (N := 3) (ci := 10) rfl gs_123 (by decide) (by decide) ⟨by decide, by decide⟩ rfl rfl rfl (Nat.le_of_ble_eq_true rfl) dX11_pour_44 (fun M11 hI p12 => ?_)
        obtain ⟨hI, hW⟩ := hI
        have fp12 := p12
        have hF := hF.call fp12 (by decide)
        refine z_iincN F dX11_pour_47 (q := 3) rfl (by decide) (fun v13 ev13 => ?_)
        refine z_eq (ls' := [(4, ii v13), (0, .ref (ad 0)), (2, .ref (ad 123)), (3, ii v6)]) rfl rfl rfl ?_
        refine z_goto (tgt := 24) F dX11_pour_50 (by decide +kernel) ?_
        refine z_loc [1, 2, 3, 0] (ls' := [(0, .ref (ad 0)), (2, .ref (ad 123)), (3, ii v6), (4, ii v13)]) rfl ?_
        exact ih24 v13 M11 hI hW hF (by omega) (by omega) (by omega)
  · refine zy_r (rest := []) F (k_X11_filledTray_t1 l hlT M ⟨hI, hW⟩ x0 (by omega) (by omega)) cs_X11_248 (T := TX11) (N := 14) (ci := 11) rfl gs_0 (by decide) (by decide) ⟨by decide, by decide⟩ rfl rfl rfl (Nat.le_of_ble_eq_true rfl) dX11_pour_2 (fun E M9 hJ9 hx => by rcases hx with ⟨h9, g9, rfl⟩ | ⟨h9, g9, rfl⟩ <;> first | (exact zx_out hQ hlk hex ⟨by decide, by decide⟩ hJ9 (Or.inl ⟨h9, trivial, hF⟩)) | (exact zx_out hQ hlk hex ⟨by decide, by decide⟩ hJ9 (Or.inr (⟨h9, trivial, hF⟩)))) (fun M14 hI p15 => ?_)
    obtain ⟨hI, hW⟩ := hI
    obtain rfl := p15
    refine z_astore_n F dX11_pour_5 rfl (by decide) (ls' := [(2, .ref (ad 125)), (0, .ref (ad 0)), (1, ii x0)]) rfl ?_
    refine z_aload_n F dX11_pour_6 rfl (q := 0) rfl ?_
    refine gf_X11_266 F hI gs_125 rfl bd_125_0 dX11_pour_7 (fun v16 ev16 av16 bv16 => ?_)
    refine z_aload_n F dX11_pour_10 rfl (q := 1) rfl ?_
    refine rf_X11_16 F gs_0 rfl dX11_pour_11 ?_
    refine gf_X11_286 F hI gs_2 rfl bd_2_3 dX11_pour_14 (fun v17 ev17 av17 bv17 => ?_)
    refine z_minX F mm_X11_465 (Nat.le_of_ble_eq_true rfl) dX11_pour_17 ⟨by decide, by decide⟩ (by omega) (by omega) (fun v18 ev18 => ?_)
    refine z_istore_n F dX11_pour_20 rfl (by decide) (ls' := [(3, ii v18), (2, .ref (ad 125)), (0, .ref (ad 0)), (1, ii x0)]) rfl ?_
    refine z_iconst F dX11_pour_21 ?_
    refine z_istore F dX11_pour_22 (by decide) (ls' := [(4, ii 0), (3, ii v18), (2, .ref (ad 125)), (0, .ref (ad 0)), (1, ii x0)]) rfl ?_
    refine z_loc [3, 2, 1, 0] (ls' := [(0, .ref (ad 0)), (2, .ref (ad 125)), (3, ii v18), (4, ii 0)]) rfl ?_
    suffices key24 : ∀ (n : Nat) (y20 : Int) (M19 : Mem), Inv M19 → WFk M19 → Fr [124, 126, 128, 130] M M19 → 0 ≤ y20 → y20 ≤ 8 → 8 - y20 < (n : Int) → Z D cy ad p l e (RMx 3 2) s m args below meth c A 5 2 12 Q 24 [(0, .ref (ad 0)), (2, .ref (ad 125)), (3, ii v18), (4, ii y20)] [] M19 from key24 9 0 M hI hW hF (by omega) (by omega) (by omega)
    intro n24
    induction n24 with
    | zero => intro y20 M19 hI hW hF ay20 by20 hn24; exfalso; omega
    | succ n24 ih24 =>
      intro y20 M19 hI hW hF ay20 by20 hn24
      refine z_iload F dX11_pour_24 (q := 3) rfl ?_
      refine z_iload_n F dX11_pour_26 rfl (q := 2) rfl ?_
      refine z_icmp_ge (tgt := 53) F dX11_pour_27 (by decide +kernel) (by omega) (by omega) (fun c21 => ?_) (fun c21 => ?_)
      · refine z_iload_n F dX11_pour_53 rfl (q := 2) rfl ?_
        exact zxr_i F hQ hr hlk dX11_pour_54 ⟨by decide, by decide⟩ (by omega) ⟨hI, hW⟩ ⟨⟨by omega, by omega⟩, hF⟩
      · refine z_aload_n F dX11_pour_30 rfl (q := 1) rfl ?_
        refine z_iload F dX11_pour_31 (q := 3) rfl ?_
        refine z_aload_n F dX11_pour_33 rfl (q := 0) rfl ?_
        refine rf_X11_34 F gs_0 rfl dX11_pour_34 ?_
        refine rf_X11_135 F gs_35 rfl dX11_pour_37 ?_
        refine z_iload F dX11_pour_40 (q := 3) rfl ?_
        refine z_iald F hI gs_36 (by omega) (by omega) (by decide) bd_36 dX11_pour_42 (fun v22 (ev22 : v22 = M19 36 _) av22 bv22 => ?_)
        refine z_i2l F dX11_pour_43 (by omega) ?_
        refine zw_v (rest := []) F (k_X10_put_125 l M19 ⟨hI, hW⟩ y20 (by omega) (by omega) v22 (by omega) (by omega)) cs_X11_461 (T := TX10) (N := 3) (ci := 10) rfl gs_125 (by decide) (by decide) ⟨by decide, by decide⟩ rfl rfl rfl (Nat.le_of_ble_eq_true rfl) dX11_pour_44 (fun M23 hI p24 => ?_)
        obtain ⟨hI, hW⟩ := hI
        have fp24 := p24
        have hF := hF.call fp24 (by decide)
        refine z_iincN F dX11_pour_47 (q := 3) rfl (by decide) (fun v25 ev25 => ?_)
        refine z_eq (ls' := [(4, ii v25), (0, .ref (ad 0)), (2, .ref (ad 125)), (3, ii v18)]) rfl rfl rfl ?_
        refine z_goto (tgt := 24) F dX11_pour_50 (by decide +kernel) ?_
        refine z_loc [1, 2, 3, 0] (ls' := [(0, .ref (ad 0)), (2, .ref (ad 125)), (3, ii v18), (4, ii v25)]) rfl ?_
        exact ih24 v25 M23 hI hW hF (by omega) (by omega) (by omega)
  · refine zy_r (rest := []) F (k_X11_filledTray_t2 l hlT M ⟨hI, hW⟩ x0 (by omega) (by omega)) cs_X11_248 (T := TX11) (N := 14) (ci := 11) rfl gs_0 (by decide) (by decide) ⟨by decide, by decide⟩ rfl rfl rfl (Nat.le_of_ble_eq_true rfl) dX11_pour_2 (fun E M9 hJ9 hx => by rcases hx with ⟨h9, g9, rfl⟩ | ⟨h9, g9, rfl⟩ <;> first | (exact zx_out hQ hlk hex ⟨by decide, by decide⟩ hJ9 (Or.inl ⟨h9, trivial, hF⟩)) | (exact zx_out hQ hlk hex ⟨by decide, by decide⟩ hJ9 (Or.inr (⟨h9, trivial, hF⟩)))) (fun M26 hI p27 => ?_)
    obtain ⟨hI, hW⟩ := hI
    obtain rfl := p27
    refine z_astore_n F dX11_pour_5 rfl (by decide) (ls' := [(2, .ref (ad 127)), (0, .ref (ad 0)), (1, ii x0)]) rfl ?_
    refine z_aload_n F dX11_pour_6 rfl (q := 0) rfl ?_
    refine gf_X11_266 F hI gs_127 rfl bd_127_0 dX11_pour_7 (fun v28 ev28 av28 bv28 => ?_)
    refine z_aload_n F dX11_pour_10 rfl (q := 1) rfl ?_
    refine rf_X11_16 F gs_0 rfl dX11_pour_11 ?_
    refine gf_X11_286 F hI gs_2 rfl bd_2_3 dX11_pour_14 (fun v29 ev29 av29 bv29 => ?_)
    refine z_minX F mm_X11_465 (Nat.le_of_ble_eq_true rfl) dX11_pour_17 ⟨by decide, by decide⟩ (by omega) (by omega) (fun v30 ev30 => ?_)
    refine z_istore_n F dX11_pour_20 rfl (by decide) (ls' := [(3, ii v30), (2, .ref (ad 127)), (0, .ref (ad 0)), (1, ii x0)]) rfl ?_
    refine z_iconst F dX11_pour_21 ?_
    refine z_istore F dX11_pour_22 (by decide) (ls' := [(4, ii 0), (3, ii v30), (2, .ref (ad 127)), (0, .ref (ad 0)), (1, ii x0)]) rfl ?_
    refine z_loc [3, 2, 1, 0] (ls' := [(0, .ref (ad 0)), (2, .ref (ad 127)), (3, ii v30), (4, ii 0)]) rfl ?_
    suffices key24 : ∀ (n : Nat) (y32 : Int) (M31 : Mem), Inv M31 → WFk M31 → Fr [124, 126, 128, 130] M M31 → 0 ≤ y32 → y32 ≤ 8 → 8 - y32 < (n : Int) → Z D cy ad p l e (RMx 3 2) s m args below meth c A 5 2 12 Q 24 [(0, .ref (ad 0)), (2, .ref (ad 127)), (3, ii v30), (4, ii y32)] [] M31 from key24 9 0 M hI hW hF (by omega) (by omega) (by omega)
    intro n24
    induction n24 with
    | zero => intro y32 M31 hI hW hF ay32 by32 hn24; exfalso; omega
    | succ n24 ih24 =>
      intro y32 M31 hI hW hF ay32 by32 hn24
      refine z_iload F dX11_pour_24 (q := 3) rfl ?_
      refine z_iload_n F dX11_pour_26 rfl (q := 2) rfl ?_
      refine z_icmp_ge (tgt := 53) F dX11_pour_27 (by decide +kernel) (by omega) (by omega) (fun c33 => ?_) (fun c33 => ?_)
      · refine z_iload_n F dX11_pour_53 rfl (q := 2) rfl ?_
        exact zxr_i F hQ hr hlk dX11_pour_54 ⟨by decide, by decide⟩ (by omega) ⟨hI, hW⟩ ⟨⟨by omega, by omega⟩, hF⟩
      · refine z_aload_n F dX11_pour_30 rfl (q := 1) rfl ?_
        refine z_iload F dX11_pour_31 (q := 3) rfl ?_
        refine z_aload_n F dX11_pour_33 rfl (q := 0) rfl ?_
        refine rf_X11_34 F gs_0 rfl dX11_pour_34 ?_
        refine rf_X11_135 F gs_35 rfl dX11_pour_37 ?_
        refine z_iload F dX11_pour_40 (q := 3) rfl ?_
        refine z_iald F hI gs_36 (by omega) (by omega) (by decide) bd_36 dX11_pour_42 (fun v34 (ev34 : v34 = M31 36 _) av34 bv34 => ?_)
        refine z_i2l F dX11_pour_43 (by omega) ?_
        refine zw_v (rest := []) F (k_X10_put_127 l M31 ⟨hI, hW⟩ y32 (by omega) (by omega) v34 (by omega) (by omega)) cs_X11_461 (T := TX10) (N := 3) (ci := 10) rfl gs_127 (by decide) (by decide) ⟨by decide, by decide⟩ rfl rfl rfl (Nat.le_of_ble_eq_true rfl) dX11_pour_44 (fun M35 hI p36 => ?_)
        obtain ⟨hI, hW⟩ := hI
        have fp36 := p36
        have hF := hF.call fp36 (by decide)
        refine z_iincN F dX11_pour_47 (q := 3) rfl (by decide) (fun v37 ev37 => ?_)
        refine z_eq (ls' := [(4, ii v37), (0, .ref (ad 0)), (2, .ref (ad 127)), (3, ii v30)]) rfl rfl rfl ?_
        refine z_goto (tgt := 24) F dX11_pour_50 (by decide +kernel) ?_
        refine z_loc [1, 2, 3, 0] (ls' := [(0, .ref (ad 0)), (2, .ref (ad 127)), (3, ii v30), (4, ii v37)]) rfl ?_
        exact ih24 v37 M35 hI hW hF (by omega) (by omega) (by omega)
  · refine zy_r (rest := []) F (k_X11_filledTray_t3 l hlT M ⟨hI, hW⟩ x0 (by omega) (by omega)) cs_X11_248 (T := TX11) (N := 14) (ci := 11) rfl gs_0 (by decide) (by decide) ⟨by decide, by decide⟩ rfl rfl rfl (Nat.le_of_ble_eq_true rfl) dX11_pour_2 (fun E M9 hJ9 hx => by rcases hx with ⟨h9, g9, rfl⟩ | ⟨h9, g9, rfl⟩ <;> first | (exact zx_out hQ hlk hex ⟨by decide, by decide⟩ hJ9 (Or.inl ⟨h9, trivial, hF⟩)) | (exact zx_out hQ hlk hex ⟨by decide, by decide⟩ hJ9 (Or.inr (⟨h9, trivial, hF⟩)))) (fun M38 hI p39 => ?_)
    obtain ⟨hI, hW⟩ := hI
    obtain rfl := p39
    refine z_astore_n F dX11_pour_5 rfl (by decide) (ls' := [(2, .ref (ad 129)), (0, .ref (ad 0)), (1, ii x0)]) rfl ?_
    refine z_aload_n F dX11_pour_6 rfl (q := 0) rfl ?_
    refine gf_X11_266 F hI gs_129 rfl bd_129_0 dX11_pour_7 (fun v40 ev40 av40 bv40 => ?_)
    refine z_aload_n F dX11_pour_10 rfl (q := 1) rfl ?_
    refine rf_X11_16 F gs_0 rfl dX11_pour_11 ?_
    refine gf_X11_286 F hI gs_2 rfl bd_2_3 dX11_pour_14 (fun v41 ev41 av41 bv41 => ?_)
    refine z_minX F mm_X11_465 (Nat.le_of_ble_eq_true rfl) dX11_pour_17 ⟨by decide, by decide⟩ (by omega) (by omega) (fun v42 ev42 => ?_)
    refine z_istore_n F dX11_pour_20 rfl (by decide) (ls' := [(3, ii v42), (2, .ref (ad 129)), (0, .ref (ad 0)), (1, ii x0)]) rfl ?_
    refine z_iconst F dX11_pour_21 ?_
    refine z_istore F dX11_pour_22 (by decide) (ls' := [(4, ii 0), (3, ii v42), (2, .ref (ad 129)), (0, .ref (ad 0)), (1, ii x0)]) rfl ?_
    refine z_loc [3, 2, 1, 0] (ls' := [(0, .ref (ad 0)), (2, .ref (ad 129)), (3, ii v42), (4, ii 0)]) rfl ?_
    suffices key24 : ∀ (n : Nat) (y44 : Int) (M43 : Mem), Inv M43 → WFk M43 → Fr [124, 126, 128, 130] M M43 → 0 ≤ y44 → y44 ≤ 8 → 8 - y44 < (n : Int) → Z D cy ad p l e (RMx 3 2) s m args below meth c A 5 2 12 Q 24 [(0, .ref (ad 0)), (2, .ref (ad 129)), (3, ii v42), (4, ii y44)] [] M43 from key24 9 0 M hI hW hF (by omega) (by omega) (by omega)
    intro n24
    induction n24 with
    | zero => intro y44 M43 hI hW hF ay44 by44 hn24; exfalso; omega
    | succ n24 ih24 =>
      intro y44 M43 hI hW hF ay44 by44 hn24
      refine z_iload F dX11_pour_24 (q := 3) rfl ?_
      refine z_iload_n F dX11_pour_26 rfl (q := 2) rfl ?_
      refine z_icmp_ge (tgt := 53) F dX11_pour_27 (by decide +kernel) (by omega) (by omega) (fun c45 => ?_) (fun c45 => ?_)
      · refine z_iload_n F dX11_pour_53 rfl (q := 2) rfl ?_
        exact zxr_i F hQ hr hlk dX11_pour_54 ⟨by decide, by decide⟩ (by omega) ⟨hI, hW⟩ ⟨⟨by omega, by omega⟩, hF⟩
      · refine z_aload_n F dX11_pour_30 rfl (q := 1) rfl ?_
        refine z_iload F dX11_pour_31 (q := 3) rfl ?_
        refine z_aload_n F dX11_pour_33 rfl (q := 0) rfl ?_
        refine rf_X11_34 F gs_0 rfl dX11_pour_34 ?_
        refine rf_X11_135 F gs_35 rfl dX11_pour_37 ?_
        refine z_iload F dX11_pour_40 (q := 3) rfl ?_
        refine z_iald F hI gs_36 (by omega) (by omega) (by decide) bd_36 dX11_pour_42 (fun v46 (ev46 : v46 = M43 36 _) av46 bv46 => ?_)
        refine z_i2l F dX11_pour_43 (by omega) ?_
        refine zw_v (rest := []) F (k_X10_put_129 l M43 ⟨hI, hW⟩ y44 (by omega) (by omega) v46 (by omega) (by omega)) cs_X11_461 (T := TX10) (N := 3) (ci := 10) rfl gs_129 (by decide) (by decide) ⟨by decide, by decide⟩ rfl rfl rfl (Nat.le_of_ble_eq_true rfl) dX11_pour_44 (fun M47 hI p48 => ?_)
        obtain ⟨hI, hW⟩ := hI
        have fp48 := p48
        have hF := hF.call fp48 (by decide)
        refine z_iincN F dX11_pour_47 (q := 3) rfl (by decide) (fun v49 ev49 => ?_)
        refine z_eq (ls' := [(4, ii v49), (0, .ref (ad 0)), (2, .ref (ad 129)), (3, ii v42)]) rfl rfl rfl ?_
        refine z_goto (tgt := 24) F dX11_pour_50 (by decide +kernel) ?_
        refine z_loc [1, 2, 3, 0] (ls' := [(0, .ref (ad 0)), (2, .ref (ad 129)), (3, ii v42), (4, ii v49)]) rfl ?_
        exact ih24 v49 M47 hI hW hF (by omega) (by omega) (by omega)
  · refine zy_r (rest := []) F (k_X11_filledTray_to l hlT M ⟨hI, hW⟩ x0 (by omega) (by omega) (by omega)) cs_X11_248 (T := TX11) (N := 14) (ci := 11) rfl gs_0 (by decide) (by decide) ⟨by decide, by decide⟩ rfl rfl rfl (Nat.le_of_ble_eq_true rfl) dX11_pour_2 (fun E M9 hJ9 hx => by obtain ⟨h9, g9, rfl⟩ := hx <;> first | (exact zx_out hQ hlk hex ⟨by decide, by decide⟩ hJ9 (Or.inr (⟨h9, trivial, hF⟩)))) (fun M50 hI p51 => ?_)
    obtain ⟨hI, hW⟩ := hI
    obtain ⟨rfl, xp51⟩ := p51
    exact xp51.elim
set_option maxRecDepth 4000 in
theorem k_X11_needImage (l : Launch) (hlT : l.stackTraces = false) (M : Mem) (hJ : Iw M) (x0 : Int) (hx0a : (-2147483648) ≤ x0) (hx0b : x0 ≤ 2147483647) : CVX l yX11_needImage cX11_needImage 2 none 1 1 (fun ad => [.ref (ad 0), ii x0]) M (fun M' => M = M' ∧ (0 ≤ x0 ∧ x0 ≤ 2)) (fun E M' => (E = "java/util/NoSuchElementException" ∧ ((x0 < 0 ∨ 2 < x0)) ∧ M = M')) := by
  obtain ⟨hI, hW⟩ := hJ
  refine enx_v (by decide +kernel) (fun ad => by exact Nat.le_of_ble_eq_true rfl) (fun D cy ad A p e s m args below meth c Q F hQ hr hlk hex => ?_)
  refine z_eq (ls' := [(0, .ref (ad 0)), (1, ii x0)]) rfl rfl rfl ?_
  refine z_iload_n F dX11_needImage_0 rfl (q := 1) rfl ?_
  refine z_if_lt (tgt := 13) F dX11_needImage_1 (by decide +kernel) (by omega) (fun c1 => ?_) (fun c1 => ?_)
  · exact z_thrNW (j := 55) F hlT hQ hlk hex (gin lm_319 rfl) (gin lm_320 rfl) at_X11_207 bad_X11_207 (by decide +kernel) ot_X11_207 rfl rfl rfl dX11_needImage_13 dX11_needImage_16 dX11_needImage_17 dX11_needImage_20 dX11_needImage_23 ⟨by decide, by decide⟩ (Nat.le_of_ble_eq_true rfl) ⟨hI, hW⟩ (⟨rfl, (by omega), rfl⟩)
  · refine z_iload_n F dX11_needImage_4 rfl (q := 1) rfl ?_
    refine z_aload_n F dX11_needImage_5 rfl (q := 0) rfl ?_
    refine rf_X11_51 F gs_0 rfl dX11_needImage_6 ?_
    refine z_alenR (x := 3) F gs_43 rfl rfl dX11_needImage_9 ?_
    refine z_icmp_lt (tgt := 24) F dX11_needImage_10 (by decide +kernel) (by omega) (by omega) (fun c2 => ?_) (fun c2 => ?_)
    · exact zxr_v F hQ hr hlk dX11_needImage_24 ⟨by decide, by decide⟩ ⟨hI, hW⟩ ⟨rfl, (by omega)⟩
    · exact z_thrNW (j := 55) F hlT hQ hlk hex (gin lm_319 rfl) (gin lm_320 rfl) at_X11_207 bad_X11_207 (by decide +kernel) ot_X11_207 rfl rfl rfl dX11_needImage_13 dX11_needImage_16 dX11_needImage_17 dX11_needImage_20 dX11_needImage_23 ⟨by decide, by decide⟩ (Nat.le_of_ble_eq_true rfl) ⟨hI, hW⟩ (⟨rfl, (by omega), rfl⟩)
set_option maxRecDepth 4000 in
theorem k_X9_copy_3_65 (l : Launch) (M : Mem) (hJ : Iw M) : CV l yX9_copy cX9_copy 2 none 1 (fun ad => [.ref (ad 3), .ref (ad 65)]) M (fun M' => Fr [65] M M' ∧ (∀ j : Nat, j < 10 → M' 65 j = M 3 j)) := by
  obtain ⟨hI, hW⟩ := hJ
  have hF : Fr [65] M M := Fr.rf
  refine en_v (by decide +kernel) (fun ad => by exact Nat.le_of_ble_eq_true rfl) (fun D cy ad A p e s m args below meth c Q F hret => ?_)
  refine z_eq (ls' := [(0, .ref (ad 3)), (1, .ref (ad 65))]) rfl rfl rfl ?_
  refine z_aload_n F dX9_copy_0 rfl (q := 0) rfl ?_
  refine z_iconst F dX9_copy_1 ?_
  refine z_aload_n F dX9_copy_2 rfl (q := 1) rfl ?_
  refine z_iconst F dX9_copy_3 ?_
  refine z_aload_n F dX9_copy_4 rfl (q := 0) rfl ?_
  refine z_alen (x := 10) F gs_3 rfl rfl dX9_copy_5 ?_
  refine z_aload_n F dX9_copy_6 rfl (q := 1) rfl ?_
  refine z_alen (x := 10) F gs_65 rfl rfl dX9_copy_7 ?_
  refine z_min F mm_X9_85 (Nat.le_of_ble_eq_true rfl) dX9_copy_8 (by omega) (by omega) (fun v1 ev1 => ?_)
  refine z_copyE F (by decide) ac_X9_91 hI gs_3 gs_65 (by omega) (by omega) (by omega) (by omega) (by omega) (by decide) (by decide) (fun i hi => rfl) (Nat.le_of_ble_eq_true rfl) dX9_copy_11 (fun M3 hI g2 kg2 => ?_)
  have hF := hF.call g2 (by decide)
  have hW : WFk M3 := hW.fr g2 (by decide) (by decide)
  exact hret _ 14 _ ⟨hI, hW⟩ ⟨hF, (cp_at (f := M3 65) (g := M 3) (h := M 65) 10 kg2 (by omega))⟩ dX9_copy_14
set_option maxRecDepth 4000 in
theorem k_X9_copy_4_66 (l : Launch) (M : Mem) (hJ : Iw M) : CV l yX9_copy cX9_copy 2 none 1 (fun ad => [.ref (ad 4), .ref (ad 66)]) M (fun M' => Fr [66] M M' ∧ (∀ j : Nat, j < 10 → M' 66 j = M 4 j)) := by
  obtain ⟨hI, hW⟩ := hJ
  have hF : Fr [66] M M := Fr.rf
  refine en_v (by decide +kernel) (fun ad => by exact Nat.le_of_ble_eq_true rfl) (fun D cy ad A p e s m args below meth c Q F hret => ?_)
  refine z_eq (ls' := [(0, .ref (ad 4)), (1, .ref (ad 66))]) rfl rfl rfl ?_
  refine z_aload_n F dX9_copy_0 rfl (q := 0) rfl ?_
  refine z_iconst F dX9_copy_1 ?_
  refine z_aload_n F dX9_copy_2 rfl (q := 1) rfl ?_
  refine z_iconst F dX9_copy_3 ?_
  refine z_aload_n F dX9_copy_4 rfl (q := 0) rfl ?_
  refine z_alen (x := 10) F gs_4 rfl rfl dX9_copy_5 ?_
  refine z_aload_n F dX9_copy_6 rfl (q := 1) rfl ?_
  refine z_alen (x := 10) F gs_66 rfl rfl dX9_copy_7 ?_
  refine z_min F mm_X9_85 (Nat.le_of_ble_eq_true rfl) dX9_copy_8 (by omega) (by omega) (fun v1 ev1 => ?_)
  refine z_copyE F (by decide) ac_X9_91 hI gs_4 gs_66 (by omega) (by omega) (by omega) (by omega) (by omega) (by decide) (by decide) (fun i hi => rfl) (Nat.le_of_ble_eq_true rfl) dX9_copy_11 (fun M3 hI g2 kg2 => ?_)
  have hF := hF.call g2 (by decide)
  have hW : WFk M3 := hW.fr g2 (by decide) (by decide)
  exact hret _ 14 _ ⟨hI, hW⟩ ⟨hF, (cp_at (f := M3 66) (g := M 4) (h := M 66) 10 kg2 (by omega))⟩ dX9_copy_14
set_option maxRecDepth 4000 in
theorem k_X9_copy_5_67 (l : Launch) (M : Mem) (hJ : Iw M) : CV l yX9_copy cX9_copy 2 none 1 (fun ad => [.ref (ad 5), .ref (ad 67)]) M (fun M' => Fr [67] M M' ∧ (∀ j : Nat, j < 100 → M' 67 j = M 5 j)) := by
  obtain ⟨hI, hW⟩ := hJ
  have hF : Fr [67] M M := Fr.rf
  refine en_v (by decide +kernel) (fun ad => by exact Nat.le_of_ble_eq_true rfl) (fun D cy ad A p e s m args below meth c Q F hret => ?_)
  refine z_eq (ls' := [(0, .ref (ad 5)), (1, .ref (ad 67))]) rfl rfl rfl ?_
  refine z_aload_n F dX9_copy_0 rfl (q := 0) rfl ?_
  refine z_iconst F dX9_copy_1 ?_
  refine z_aload_n F dX9_copy_2 rfl (q := 1) rfl ?_
  refine z_iconst F dX9_copy_3 ?_
  refine z_aload_n F dX9_copy_4 rfl (q := 0) rfl ?_
  refine z_alen (x := 100) F gs_5 rfl rfl dX9_copy_5 ?_
  refine z_aload_n F dX9_copy_6 rfl (q := 1) rfl ?_
  refine z_alen (x := 100) F gs_67 rfl rfl dX9_copy_7 ?_
  refine z_min F mm_X9_85 (Nat.le_of_ble_eq_true rfl) dX9_copy_8 (by omega) (by omega) (fun v1 ev1 => ?_)
  refine z_copyE F (by decide) ac_X9_91 hI gs_5 gs_67 (by omega) (by omega) (by omega) (by omega) (by omega) (by decide) (by decide) (fun i hi => rfl) (Nat.le_of_ble_eq_true rfl) dX9_copy_11 (fun M3 hI g2 kg2 => ?_)
  have hF := hF.call g2 (by decide)
  have hW : WFk M3 := hW.fr g2 (by decide) (by decide)
  exact hret _ 14 _ ⟨hI, hW⟩ ⟨hF, (cp_at (f := M3 67) (g := M 5) (h := M 67) 100 kg2 (by omega))⟩ dX9_copy_14
set_option maxRecDepth 4000 in
theorem k_X9_copy_6_68 (l : Launch) (M : Mem) (hJ : Iw M) : CV l yX9_copy cX9_copy 2 none 1 (fun ad => [.ref (ad 6), .ref (ad 68)]) M (fun M' => Fr [68] M M' ∧ (∀ j : Nat, j < 8 → M' 68 j = M 6 j)) := by
  obtain ⟨hI, hW⟩ := hJ
  have hF : Fr [68] M M := Fr.rf
  refine en_v (by decide +kernel) (fun ad => by exact Nat.le_of_ble_eq_true rfl) (fun D cy ad A p e s m args below meth c Q F hret => ?_)
  refine z_eq (ls' := [(0, .ref (ad 6)), (1, .ref (ad 68))]) rfl rfl rfl ?_
  refine z_aload_n F dX9_copy_0 rfl (q := 0) rfl ?_
  refine z_iconst F dX9_copy_1 ?_
  refine z_aload_n F dX9_copy_2 rfl (q := 1) rfl ?_
  refine z_iconst F dX9_copy_3 ?_
  refine z_aload_n F dX9_copy_4 rfl (q := 0) rfl ?_
  refine z_alen (x := 8) F gs_6 rfl rfl dX9_copy_5 ?_
  refine z_aload_n F dX9_copy_6 rfl (q := 1) rfl ?_
  refine z_alen (x := 8) F gs_68 rfl rfl dX9_copy_7 ?_
  refine z_min F mm_X9_85 (Nat.le_of_ble_eq_true rfl) dX9_copy_8 (by omega) (by omega) (fun v1 ev1 => ?_)
  refine z_copyE F (by decide) ac_X9_91 hI gs_6 gs_68 (by omega) (by omega) (by omega) (by omega) (by omega) (by decide) (by decide) (fun i hi => rfl) (Nat.le_of_ble_eq_true rfl) dX9_copy_11 (fun M3 hI g2 kg2 => ?_)
  have hF := hF.call g2 (by decide)
  have hW : WFk M3 := hW.fr g2 (by decide) (by decide)
  exact hret _ 14 _ ⟨hI, hW⟩ ⟨hF, (cp_at (f := M3 68) (g := M 6) (h := M 68) 8 kg2 (by omega))⟩ dX9_copy_14
set_option maxRecDepth 4000 in
theorem k_X9_copy_7_69 (l : Launch) (M : Mem) (hJ : Iw M) : CV l yX9_copy cX9_copy 2 none 1 (fun ad => [.ref (ad 7), .ref (ad 69)]) M (fun M' => Fr [69] M M' ∧ (∀ j : Nat, j < 8 → M' 69 j = M 7 j)) := by
  obtain ⟨hI, hW⟩ := hJ
  have hF : Fr [69] M M := Fr.rf
  refine en_v (by decide +kernel) (fun ad => by exact Nat.le_of_ble_eq_true rfl) (fun D cy ad A p e s m args below meth c Q F hret => ?_)
  refine z_eq (ls' := [(0, .ref (ad 7)), (1, .ref (ad 69))]) rfl rfl rfl ?_
  refine z_aload_n F dX9_copy_0 rfl (q := 0) rfl ?_
  refine z_iconst F dX9_copy_1 ?_
  refine z_aload_n F dX9_copy_2 rfl (q := 1) rfl ?_
  refine z_iconst F dX9_copy_3 ?_
  refine z_aload_n F dX9_copy_4 rfl (q := 0) rfl ?_
  refine z_alen (x := 8) F gs_7 rfl rfl dX9_copy_5 ?_
  refine z_aload_n F dX9_copy_6 rfl (q := 1) rfl ?_
  refine z_alen (x := 8) F gs_69 rfl rfl dX9_copy_7 ?_
  refine z_min F mm_X9_85 (Nat.le_of_ble_eq_true rfl) dX9_copy_8 (by omega) (by omega) (fun v1 ev1 => ?_)
  refine z_copyE F (by decide) ac_X9_91 hI gs_7 gs_69 (by omega) (by omega) (by omega) (by omega) (by omega) (by decide) (by decide) (fun i hi => rfl) (Nat.le_of_ble_eq_true rfl) dX9_copy_11 (fun M3 hI g2 kg2 => ?_)
  have hF := hF.call g2 (by decide)
  have hW : WFk M3 := hW.fr g2 (by decide) (by decide)
  exact hret _ 14 _ ⟨hI, hW⟩ ⟨hF, (cp_at (f := M3 69) (g := M 7) (h := M 69) 8 kg2 (by omega))⟩ dX9_copy_14
set_option maxRecDepth 4000 in
theorem k_X9_copy_8_70 (l : Launch) (M : Mem) (hJ : Iw M) : CV l yX9_copy cX9_copy 2 none 1 (fun ad => [.ref (ad 8), .ref (ad 70)]) M (fun M' => Fr [70] M M' ∧ (∀ j : Nat, j < 8 → M' 70 j = M 8 j)) := by
  obtain ⟨hI, hW⟩ := hJ
  have hF : Fr [70] M M := Fr.rf
  refine en_v (by decide +kernel) (fun ad => by exact Nat.le_of_ble_eq_true rfl) (fun D cy ad A p e s m args below meth c Q F hret => ?_)
  refine z_eq (ls' := [(0, .ref (ad 8)), (1, .ref (ad 70))]) rfl rfl rfl ?_
  refine z_aload_n F dX9_copy_0 rfl (q := 0) rfl ?_
  refine z_iconst F dX9_copy_1 ?_
  refine z_aload_n F dX9_copy_2 rfl (q := 1) rfl ?_
  refine z_iconst F dX9_copy_3 ?_
  refine z_aload_n F dX9_copy_4 rfl (q := 0) rfl ?_
  refine z_alen (x := 8) F gs_8 rfl rfl dX9_copy_5 ?_
  refine z_aload_n F dX9_copy_6 rfl (q := 1) rfl ?_
  refine z_alen (x := 8) F gs_70 rfl rfl dX9_copy_7 ?_
  refine z_min F mm_X9_85 (Nat.le_of_ble_eq_true rfl) dX9_copy_8 (by omega) (by omega) (fun v1 ev1 => ?_)
  refine z_copyE F (by decide) ac_X9_91 hI gs_8 gs_70 (by omega) (by omega) (by omega) (by omega) (by omega) (by decide) (by decide) (fun i hi => rfl) (Nat.le_of_ble_eq_true rfl) dX9_copy_11 (fun M3 hI g2 kg2 => ?_)
  have hF := hF.call g2 (by decide)
  have hW : WFk M3 := hW.fr g2 (by decide) (by decide)
  exact hret _ 14 _ ⟨hI, hW⟩ ⟨hF, (cp_at (f := M3 70) (g := M 8) (h := M 70) 8 kg2 (by omega))⟩ dX9_copy_14
set_option maxRecDepth 4000 in
theorem k_X9_copy_9_71 (l : Launch) (M : Mem) (hJ : Iw M) : CV l yX9_copy cX9_copy 2 none 1 (fun ad => [.ref (ad 9), .ref (ad 71)]) M (fun M' => Fr [71] M M' ∧ (∀ j : Nat, j < 8 → M' 71 j = M 9 j)) := by
  obtain ⟨hI, hW⟩ := hJ
  have hF : Fr [71] M M := Fr.rf
  refine en_v (by decide +kernel) (fun ad => by exact Nat.le_of_ble_eq_true rfl) (fun D cy ad A p e s m args below meth c Q F hret => ?_)
  refine z_eq (ls' := [(0, .ref (ad 9)), (1, .ref (ad 71))]) rfl rfl rfl ?_
  refine z_aload_n F dX9_copy_0 rfl (q := 0) rfl ?_
  refine z_iconst F dX9_copy_1 ?_
  refine z_aload_n F dX9_copy_2 rfl (q := 1) rfl ?_
  refine z_iconst F dX9_copy_3 ?_
  refine z_aload_n F dX9_copy_4 rfl (q := 0) rfl ?_
  refine z_alen (x := 8) F gs_9 rfl rfl dX9_copy_5 ?_
  refine z_aload_n F dX9_copy_6 rfl (q := 1) rfl ?_
  refine z_alen (x := 8) F gs_71 rfl rfl dX9_copy_7 ?_
  refine z_min F mm_X9_85 (Nat.le_of_ble_eq_true rfl) dX9_copy_8 (by omega) (by omega) (fun v1 ev1 => ?_)
  refine z_copyE F (by decide) ac_X9_91 hI gs_9 gs_71 (by omega) (by omega) (by omega) (by omega) (by omega) (by decide) (by decide) (fun i hi => rfl) (Nat.le_of_ble_eq_true rfl) dX9_copy_11 (fun M3 hI g2 kg2 => ?_)
  have hF := hF.call g2 (by decide)
  have hW : WFk M3 := hW.fr g2 (by decide) (by decide)
  exact hret _ 14 _ ⟨hI, hW⟩ ⟨hF, (cp_at (f := M3 71) (g := M 9) (h := M 71) 8 kg2 (by omega))⟩ dX9_copy_14
set_option maxRecDepth 4000 in
theorem k_X9_copy_10_72 (l : Launch) (M : Mem) (hJ : Iw M) : CV l yX9_copy cX9_copy 2 none 1 (fun ad => [.ref (ad 10), .ref (ad 72)]) M (fun M' => Fr [72] M M' ∧ (∀ j : Nat, j < 6 → M' 72 j = M 10 j)) := by
  obtain ⟨hI, hW⟩ := hJ
  have hF : Fr [72] M M := Fr.rf
  refine en_v (by decide +kernel) (fun ad => by exact Nat.le_of_ble_eq_true rfl) (fun D cy ad A p e s m args below meth c Q F hret => ?_)
  refine z_eq (ls' := [(0, .ref (ad 10)), (1, .ref (ad 72))]) rfl rfl rfl ?_
  refine z_aload_n F dX9_copy_0 rfl (q := 0) rfl ?_
  refine z_iconst F dX9_copy_1 ?_
  refine z_aload_n F dX9_copy_2 rfl (q := 1) rfl ?_
  refine z_iconst F dX9_copy_3 ?_
  refine z_aload_n F dX9_copy_4 rfl (q := 0) rfl ?_
  refine z_alen (x := 6) F gs_10 rfl rfl dX9_copy_5 ?_
  refine z_aload_n F dX9_copy_6 rfl (q := 1) rfl ?_
  refine z_alen (x := 6) F gs_72 rfl rfl dX9_copy_7 ?_
  refine z_min F mm_X9_85 (Nat.le_of_ble_eq_true rfl) dX9_copy_8 (by omega) (by omega) (fun v1 ev1 => ?_)
  refine z_copyE F (by decide) ac_X9_91 hI gs_10 gs_72 (by omega) (by omega) (by omega) (by omega) (by omega) (by decide) (by decide) (fun i hi => rfl) (Nat.le_of_ble_eq_true rfl) dX9_copy_11 (fun M3 hI g2 kg2 => ?_)
  have hF := hF.call g2 (by decide)
  have hW : WFk M3 := hW.fr g2 (by decide) (by decide)
  exact hret _ 14 _ ⟨hI, hW⟩ ⟨hF, (cp_at (f := M3 72) (g := M 10) (h := M 72) 6 kg2 (by omega))⟩ dX9_copy_14
set_option maxRecDepth 4000 in
theorem k_X9_copy_11_73 (l : Launch) (M : Mem) (hJ : Iw M) : CV l yX9_copy cX9_copy 2 none 1 (fun ad => [.ref (ad 11), .ref (ad 73)]) M (fun M' => Fr [73] M M' ∧ (∀ j : Nat, j < 6 → M' 73 j = M 11 j)) := by
  obtain ⟨hI, hW⟩ := hJ
  have hF : Fr [73] M M := Fr.rf
  refine en_v (by decide +kernel) (fun ad => by exact Nat.le_of_ble_eq_true rfl) (fun D cy ad A p e s m args below meth c Q F hret => ?_)
  refine z_eq (ls' := [(0, .ref (ad 11)), (1, .ref (ad 73))]) rfl rfl rfl ?_
  refine z_aload_n F dX9_copy_0 rfl (q := 0) rfl ?_
  refine z_iconst F dX9_copy_1 ?_
  refine z_aload_n F dX9_copy_2 rfl (q := 1) rfl ?_
  refine z_iconst F dX9_copy_3 ?_
  refine z_aload_n F dX9_copy_4 rfl (q := 0) rfl ?_
  refine z_alen (x := 6) F gs_11 rfl rfl dX9_copy_5 ?_
  refine z_aload_n F dX9_copy_6 rfl (q := 1) rfl ?_
  refine z_alen (x := 6) F gs_73 rfl rfl dX9_copy_7 ?_
  refine z_min F mm_X9_85 (Nat.le_of_ble_eq_true rfl) dX9_copy_8 (by omega) (by omega) (fun v1 ev1 => ?_)
  refine z_copyE F (by decide) ac_X9_91 hI gs_11 gs_73 (by omega) (by omega) (by omega) (by omega) (by omega) (by decide) (by decide) (fun i hi => rfl) (Nat.le_of_ble_eq_true rfl) dX9_copy_11 (fun M3 hI g2 kg2 => ?_)
  have hF := hF.call g2 (by decide)
  have hW : WFk M3 := hW.fr g2 (by decide) (by decide)
  exact hret _ 14 _ ⟨hI, hW⟩ ⟨hF, (cp_at (f := M3 73) (g := M 11) (h := M 73) 6 kg2 (by omega))⟩ dX9_copy_14
set_option maxRecDepth 4000 in
theorem k_X9_copy_12_74 (l : Launch) (M : Mem) (hJ : Iw M) : CV l yX9_copy cX9_copy 2 none 1 (fun ad => [.ref (ad 12), .ref (ad 74)]) M (fun M' => Fr [74] M M' ∧ (∀ j : Nat, j < 6 → M' 74 j = M 12 j)) := by
  obtain ⟨hI, hW⟩ := hJ
  have hF : Fr [74] M M := Fr.rf
  refine en_v (by decide +kernel) (fun ad => by exact Nat.le_of_ble_eq_true rfl) (fun D cy ad A p e s m args below meth c Q F hret => ?_)
  refine z_eq (ls' := [(0, .ref (ad 12)), (1, .ref (ad 74))]) rfl rfl rfl ?_
  refine z_aload_n F dX9_copy_0 rfl (q := 0) rfl ?_
  refine z_iconst F dX9_copy_1 ?_
  refine z_aload_n F dX9_copy_2 rfl (q := 1) rfl ?_
  refine z_iconst F dX9_copy_3 ?_
  refine z_aload_n F dX9_copy_4 rfl (q := 0) rfl ?_
  refine z_alen (x := 6) F gs_12 rfl rfl dX9_copy_5 ?_
  refine z_aload_n F dX9_copy_6 rfl (q := 1) rfl ?_
  refine z_alen (x := 6) F gs_74 rfl rfl dX9_copy_7 ?_
  refine z_min F mm_X9_85 (Nat.le_of_ble_eq_true rfl) dX9_copy_8 (by omega) (by omega) (fun v1 ev1 => ?_)
  refine z_copyE F (by decide) ac_X9_91 hI gs_12 gs_74 (by omega) (by omega) (by omega) (by omega) (by omega) (by decide) (by decide) (fun i hi => rfl) (Nat.le_of_ble_eq_true rfl) dX9_copy_11 (fun M3 hI g2 kg2 => ?_)
  have hF := hF.call g2 (by decide)
  have hW : WFk M3 := hW.fr g2 (by decide) (by decide)
  exact hret _ 14 _ ⟨hI, hW⟩ ⟨hF, (cp_at (f := M3 74) (g := M 12) (h := M 74) 6 kg2 (by omega))⟩ dX9_copy_14
set_option maxRecDepth 4000 in
theorem k_X9_copy_13_75 (l : Launch) (M : Mem) (hJ : Iw M) : CV l yX9_copy cX9_copy 2 none 1 (fun ad => [.ref (ad 13), .ref (ad 75)]) M (fun M' => Fr [75] M M' ∧ (∀ j : Nat, j < 6 → M' 75 j = M 13 j)) := by
  obtain ⟨hI, hW⟩ := hJ
  have hF : Fr [75] M M := Fr.rf
  refine en_v (by decide +kernel) (fun ad => by exact Nat.le_of_ble_eq_true rfl) (fun D cy ad A p e s m args below meth c Q F hret => ?_)
  refine z_eq (ls' := [(0, .ref (ad 13)), (1, .ref (ad 75))]) rfl rfl rfl ?_
  refine z_aload_n F dX9_copy_0 rfl (q := 0) rfl ?_
  refine z_iconst F dX9_copy_1 ?_
  refine z_aload_n F dX9_copy_2 rfl (q := 1) rfl ?_
  refine z_iconst F dX9_copy_3 ?_
  refine z_aload_n F dX9_copy_4 rfl (q := 0) rfl ?_
  refine z_alen (x := 6) F gs_13 rfl rfl dX9_copy_5 ?_
  refine z_aload_n F dX9_copy_6 rfl (q := 1) rfl ?_
  refine z_alen (x := 6) F gs_75 rfl rfl dX9_copy_7 ?_
  refine z_min F mm_X9_85 (Nat.le_of_ble_eq_true rfl) dX9_copy_8 (by omega) (by omega) (fun v1 ev1 => ?_)
  refine z_copyE F (by decide) ac_X9_91 hI gs_13 gs_75 (by omega) (by omega) (by omega) (by omega) (by omega) (by decide) (by decide) (fun i hi => rfl) (Nat.le_of_ble_eq_true rfl) dX9_copy_11 (fun M3 hI g2 kg2 => ?_)
  have hF := hF.call g2 (by decide)
  have hW : WFk M3 := hW.fr g2 (by decide) (by decide)
  exact hret _ 14 _ ⟨hI, hW⟩ ⟨hF, (cp_at (f := M3 75) (g := M 13) (h := M 75) 6 kg2 (by omega))⟩ dX9_copy_14
