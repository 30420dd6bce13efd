set_option maxHeartbeats 4000000 in
set_option maxRecDepth 100000 in
theorem lc_lettersOf {E : gE} {k n b L j : Nat} {xs : Nat → Int32} {σ : gS} {τ : gT} {o : gO} {nw nl lm : Nat} {a : Nat} (A : gW E k n b L j xs) (R : RR σ τ nw nl lm) (ha : a < nw) (e1 : xs (3 * j + 1) = nI a) (kk : gK0 E k n b j) : G E k n 827 (LV E b j) [] σ τ o := by
  obtain ⟨C, X, hN, hj, hL, hF, hLo, hk, hn⟩ := A
  have hl : (eL E).stackTraces = false := C.2.2.2.2.2.2.2.2.2
  have hIM : IM σ τ nw nl lm := RR_IM R
  have hnw := Iv_nw R.1
  have hnl := Iv_nl R.1
  have h3 : σ 3 = nI nw := Iv_h3 R.1
  have h9 : σ 9 = nI nl := Iv_h9 R.1
  obtain ⟨I, hb35, s1, s2, s3, s4, s5, s6, s7, t1, t2, t3, t4, t5, hz9⟩ := id R
  show G E k n 827 [(4, .int (nI (3 * j))), (3, .ref ((eG E).2.1 102)), (2, .ref ((eG E).2.1 101)), (1, .ref ((eG E).2.1 100)), (0, .ref b)] [] σ τ o
  refine g_aload_n C dL_law_827 rfl rfl ?_
  refine g_aload_n C dL_law_828 rfl rfl ?_
  refine g_iload C dL_law_829 rfl ?_
  refine g_iconst (v := 1) C dL_law_831 (by decide) ?_
  refine g_iadd C dL_law_832 ?_
  refine g_sld C X (3 * j + 1) dL_law_833 (nI_1 _) (by omega) hL e1 ?_
  refine g_aload_n C dL_law_834 rfl rfl ?_
  refine g_callLE (na := 3) C hN dL_law_835 (h_lettersOf hl (eG E) σ τ o nw nl lm a I ha) gL_law_L_lettersOf rfl rfl (by decide +kernel) rfl (Nat.le_of_ble_eq_true rfl) (by first | exact ⟨Nat.le_trans (by decide) hF, Nat.le_trans (by decide) hLo⟩) (by omega) ?_
  refine g_istore C [(5, _), (4, _), (3, _), (2, _), (1, _), (0, _)] dL_law_838 (by decide) rfl ?_
  refine g_aload_n C dL_law_840 rfl rfl ?_
  refine g_aload_n C dL_law_841 rfl rfl ?_
  refine g_iload C dL_law_842 rfl ?_
  refine g_iconst (v := 1) C dL_law_844 (by decide) ?_
  refine g_iadd C dL_law_845 ?_
  refine g_sld C X (3 * j + 1) dL_law_846 (nI_1 _) (by omega) hL e1 ?_
  refine g_callVEi (Cl := RX1) (T := TX1) (N := 16) (ci := 1) (q0 := 12) (na := 1) C dL_law_847 (m_lettersOf hl (eG E) _ _ _ nw nl lm a (RR_IM R) ha) gL_law_X1_lettersOf rfl rfl (by decide +kernel) rfl rfl rfl (Nat.le_of_ble_eq_true rfl) (by first | exact ⟨Nat.le_trans (by decide) hF, Nat.le_trans (by decide) hLo⟩) (by omega) ?_
  refine g_istore C [(6, _), (5, _), (4, _), (3, _), (2, _), (1, _), (0, _)] dL_law_850 (by decide) rfl ?_
  refine g_aload_n C dL_law_852 rfl rfl ?_
  refine g_callVEi (Cl := RX1) (T := TX1) (N := 16) (ci := 1) (q0 := 12) (na := 0) C dL_law_853 (m_thrown hl (eG E) _ _ _) gL_law_X1_thrown rfl rfl (by decide +kernel) rfl rfl rfl (Nat.le_of_ble_eq_true rfl) (by first | exact ⟨Nat.le_trans (by decide) hF, Nat.le_trans (by decide) hLo⟩) (by omega) ?_
  refine g_topi (show _ = (0 : Int32) from rfl) ?_
  refine g_iload C dL_law_856 rfl ?_
  refine g_icmp_eq (tgt := 863) C dL_law_858 (by decide) (fun c_858 => ?_) (fun c_858 => absurd rfl c_858)
  refine g_iload C dL_law_863 rfl ?_
  refine g_if_ne (tgt := 880) C dL_law_865 (by decide) (fun c_865 => absurd rfl c_865) (fun c_865 => ?_)
  refine g_aload_n C dL_law_868 rfl rfl ?_
  refine g_iconst (v := 0) C dL_law_869 (by decide) ?_
  refine g_lald C dL_law_870 ?_
  refine g_iload C dL_law_871 rfl ?_
  refine g_i2l C dL_law_873 ?_
  refine g_lcmpE C (congrArg Int32.toInt64 (show τ 0 a = τ 27 a from by rw [t1])) dL_law_874 ?_
  refine g_if_eq (tgt := 880) C dL_law_875 (by decide) (fun c_875 => ?_) (fun c_875 => absurd rfl c_875)
  refine g_goto (tgt := 1650) C dL_law_880 (by decide) ?_
  refine g_wide (k + 1) (n + 10) (by omega) (by omega) ?_
  refine g_lv [2, 3, 4, 5, 6] [(4, .int (nI (3 * j))), (3, .ref ((eG E).2.1 102)), (2, .ref ((eG E).2.1 101)), (1, .ref ((eG E).2.1 100)), (0, .ref b)] rfl ?_
  exact kk _ _ _ _ _ _ (RR_20 R 0)
set_option maxHeartbeats 4000000 in
set_option maxRecDepth 100000 in
theorem lc_lettersOfX {E : gE} {k n b L j : Nat} {xs : Nat → Int32} {σ : gS} {τ : gT} {o : gO} {nw nl lm : Nat} {w : Int32} (A : gW E k n b L j xs) (R : RR σ τ nw nl lm) (hw : w < 0 ∨ ¬ w < σ 3) (e1 : xs (3 * j + 1) = w) (kk : gK0 E k n b j) : G E k n 827 (LV E b j) [] σ τ o := by
  obtain ⟨C, X, hN, hj, hL, hF, hLo, hk, hn⟩ := A
  have hl : (eL E).stackTraces = false := C.2.2.2.2.2.2.2.2.2
  have hIM : IM σ τ nw nl lm := RR_IM R
  have hnw := Iv_nw R.1
  have hnl := Iv_nl R.1
  have h3 : σ 3 = nI nw := Iv_h3 R.1
  have h9 : σ 9 = nI nl := Iv_h9 R.1
  obtain ⟨I, hb35, s1, s2, s3, s4, s5, s6, s7, t1, t2, t3, t4, t5, hz9⟩ := id R
  show G E k n 827 [(4, .int (nI (3 * j))), (3, .ref ((eG E).2.1 102)), (2, .ref ((eG E).2.1 101)), (1, .ref ((eG E).2.1 100)), (0, .ref b)] [] σ τ o
  refine g_aload_n C dL_law_827 rfl rfl ?_
  refine g_aload_n C dL_law_828 rfl rfl ?_
  refine g_iload C dL_law_829 rfl ?_
  refine g_iconst (v := 1) C dL_law_831 (by decide) ?_
  refine g_iadd C dL_law_832 ?_
  refine g_sld C X (3 * j + 1) dL_law_833 (nI_1 _) (by omega) hL e1 ?_
  refine g_aload_n C dL_law_834 rfl rfl ?_
  refine g_callLE (na := 3) C hN dL_law_835 (h_lettersOfX hl (eG E) σ τ o w hw) gL_law_L_lettersOf rfl rfl (by decide +kernel) rfl (Nat.le_of_ble_eq_true rfl) (by first | exact ⟨Nat.le_trans (by decide) hF, Nat.le_trans (by decide) hLo⟩) (by omega) ?_
  refine g_istore C [(5, _), (4, _), (3, _), (2, _), (1, _), (0, _)] dL_law_838 (by decide) rfl ?_
  refine g_aload_n C dL_law_840 rfl rfl ?_
  refine g_aload_n C dL_law_841 rfl rfl ?_
  refine g_iload C dL_law_842 rfl ?_
  refine g_iconst (v := 1) C dL_law_844 (by decide) ?_
  refine g_iadd C dL_law_845 ?_
  refine g_sld C X (3 * j + 1) dL_law_846 (nI_1 _) (by omega) hL e1 ?_
  refine g_callVEi (Cl := RX1) (T := TX1) (N := 16) (ci := 1) (q0 := 12) (na := 1) C dL_law_847 (m_lettersOfX hl (eG E) _ _ _ nw nl lm w (RR_IM R) (by rw [s1]; exact hw)) gL_law_X1_lettersOf rfl rfl (by decide +kernel) rfl rfl rfl (Nat.le_of_ble_eq_true rfl) (by first | exact ⟨Nat.le_trans (by decide) hF, Nat.le_trans (by decide) hLo⟩) (by omega) ?_
  refine g_istore C [(6, _), (5, _), (4, _), (3, _), (2, _), (1, _), (0, _)] dL_law_850 (by decide) rfl ?_
  refine g_aload_n C dL_law_852 rfl rfl ?_
  refine g_callVEi (Cl := RX1) (T := TX1) (N := 16) (ci := 1) (q0 := 12) (na := 0) C dL_law_853 (m_thrown hl (eG E) _ _ _) gL_law_X1_thrown rfl rfl (by decide +kernel) rfl rfl rfl (Nat.le_of_ble_eq_true rfl) (by first | exact ⟨Nat.le_trans (by decide) hF, Nat.le_trans (by decide) hLo⟩) (by omega) ?_
  refine g_topi (show _ = (1 : Int32) from rfl) ?_
  refine g_iload C dL_law_856 rfl ?_
  refine g_icmp_eq (tgt := 863) C dL_law_858 (by decide) (fun c_858 => ?_) (fun c_858 => absurd rfl c_858)
  refine g_iload C dL_law_863 rfl ?_
  refine g_if_ne (tgt := 880) C dL_law_865 (by decide) (fun c_865 => ?_) (fun c_865 => absurd c_865 (by decide))
  refine g_goto (tgt := 1650) C dL_law_880 (by decide) ?_
  refine g_wide (k + 1) (n + 10) (by omega) (by omega) ?_
  refine g_lv [2, 3, 4, 5, 6] [(4, .int (nI (3 * j))), (3, .ref ((eG E).2.1 102)), (2, .ref ((eG E).2.1 101)), (1, .ref ((eG E).2.1 100)), (0, .ref b)] rfl ?_
  exact kk _ _ _ _ _ _ (RR_20 (RR_20 R 0) 1)
set_option maxHeartbeats 4000000 in
set_option maxRecDepth 100000 in
theorem lc_countOf {E : gE} {k n b L j : Nat} {xs : Nat → Int32} {σ : gS} {τ : gT} {o : gO} {nw nl lm : Nat} {a : Nat} (A : gW E k n b L j xs) (R : RR σ τ nw nl lm) (ha : a < nw) (e1 : xs (3 * j + 1) = nI a) (kk : gK0 E k n b j) : G E k n 883 (LV E b j) [] σ τ o := by
  obtain ⟨C, X, hN, hj, hL, hF, hLo, hk, hn⟩ := A
  have hl : (eL E).stackTraces = false := C.2.2.2.2.2.2.2.2.2
  have hIM : IM σ τ nw nl lm := RR_IM R
  have hnw := Iv_nw R.1
  have hnl := Iv_nl R.1
  have h3 : σ 3 = nI nw := Iv_h3 R.1
  have h9 : σ 9 = nI nl := Iv_h9 R.1
  obtain ⟨I, hb35, s1, s2, s3, s4, s5, s6, s7, t1, t2, t3, t4, t5, hz9⟩ := id R
  show G E k n 883 [(4, .int (nI (3 * j))), (3, .ref ((eG E).2.1 102)), (2, .ref ((eG E).2.1 101)), (1, .ref ((eG E).2.1 100)), (0, .ref b)] [] σ τ o
  refine g_aload_n C dL_law_883 rfl rfl ?_
  refine g_aload_n C dL_law_884 rfl rfl ?_
  refine g_iload C dL_law_885 rfl ?_
  refine g_iconst (v := 1) C dL_law_887 (by decide) ?_
  refine g_iadd C dL_law_888 ?_
  refine g_sld C X (3 * j + 1) dL_law_889 (nI_1 _) (by omega) hL e1 ?_
  refine g_aload_n C dL_law_890 rfl rfl ?_
  refine g_callLE (na := 3) C hN dL_law_891 (h_countOf hl (eG E) σ τ o nw nl lm a I ha) gL_law_L_countOf rfl rfl (by decide +kernel) rfl (Nat.le_of_ble_eq_true rfl) (by first | exact ⟨Nat.le_trans (by decide) hF, Nat.le_trans (by decide) hLo⟩) (by omega) ?_
  refine g_istore C [(5, _), (4, _), (3, _), (2, _), (1, _), (0, _)] dL_law_894 (by decide) rfl ?_
  refine g_aload_n C dL_law_896 rfl rfl ?_
  refine g_aload_n C dL_law_897 rfl rfl ?_
  refine g_iload C dL_law_898 rfl ?_
  refine g_iconst (v := 1) C dL_law_900 (by decide) ?_
  refine g_iadd C dL_law_901 ?_
  refine g_sld C X (3 * j + 1) dL_law_902 (nI_1 _) (by omega) hL e1 ?_
  refine g_callVEi (Cl := RX1) (T := TX1) (N := 16) (ci := 1) (q0 := 12) (na := 1) C dL_law_903 (m_countOf hl (eG E) _ _ _ nw nl lm a (RR_IM R) ha) gL_law_X1_countOf rfl rfl (by decide +kernel) rfl rfl rfl (Nat.le_of_ble_eq_true rfl) (by first | exact ⟨Nat.le_trans (by decide) hF, Nat.le_trans (by decide) hLo⟩) (by omega) ?_
  refine g_istore C [(6, _), (5, _), (4, _), (3, _), (2, _), (1, _), (0, _)] dL_law_906 (by decide) rfl ?_
  refine g_aload_n C dL_law_908 rfl rfl ?_
  refine g_callVEi (Cl := RX1) (T := TX1) (N := 16) (ci := 1) (q0 := 12) (na := 0) C dL_law_909 (m_thrown hl (eG E) _ _ _) gL_law_X1_thrown rfl rfl (by decide +kernel) rfl rfl rfl (Nat.le_of_ble_eq_true rfl) (by first | exact ⟨Nat.le_trans (by decide) hF, Nat.le_trans (by decide) hLo⟩) (by omega) ?_
  refine g_topi (show _ = (0 : Int32) from rfl) ?_
  refine g_iload C dL_law_912 rfl ?_
  refine g_icmp_eq (tgt := 919) C dL_law_914 (by decide) (fun c_914 => ?_) (fun c_914 => absurd rfl c_914)
  refine g_iload C dL_law_919 rfl ?_
  refine g_if_ne (tgt := 936) C dL_law_921 (by decide) (fun c_921 => absurd rfl c_921) (fun c_921 => ?_)
  refine g_aload_n C dL_law_924 rfl rfl ?_
  refine g_iconst (v := 0) C dL_law_925 (by decide) ?_
  refine g_lald C dL_law_926 ?_
  refine g_iload C dL_law_927 rfl ?_
  refine g_i2l C dL_law_929 ?_
  refine g_lcmpE C (congrArg Int32.toInt64 (show cn (σ 4) (τ 0 a) = cn (σ 22) (τ 27 a) from by rw [s2, t1])) dL_law_930 ?_
  refine g_if_eq (tgt := 936) C dL_law_931 (by decide) (fun c_931 => ?_) (fun c_931 => absurd rfl c_931)
  refine g_goto (tgt := 1650) C dL_law_936 (by decide) ?_
  refine g_wide (k + 1) (n + 10) (by omega) (by omega) ?_
  refine g_lv [2, 3, 4, 5, 6] [(4, .int (nI (3 * j))), (3, .ref ((eG E).2.1 102)), (2, .ref ((eG E).2.1 101)), (1, .ref ((eG E).2.1 100)), (0, .ref b)] rfl ?_
  exact kk _ _ _ _ _ _ (RR_20 R 0)
set_option maxHeartbeats 4000000 in
set_option maxRecDepth 100000 in
theorem lc_countOfX {E : gE} {k n b L j : Nat} {xs : Nat → Int32} {σ : gS} {τ : gT} {o : gO} {nw nl lm : Nat} {w : Int32} (A : gW E k n b L j xs) (R : RR σ τ nw nl lm) (hw : w < 0 ∨ ¬ w < σ 3) (e1 : xs (3 * j + 1) = w) (kk : gK0 E k n b j) : G E k n 883 (LV E b j) [] σ τ o := by
  obtain ⟨C, X, hN, hj, hL, hF, hLo, hk, hn⟩ := A
  have hl : (eL E).stackTraces = false := C.2.2.2.2.2.2.2.2.2
  have hIM : IM σ τ nw nl lm := RR_IM R
  have hnw := Iv_nw R.1
  have hnl := Iv_nl R.1
  have h3 : σ 3 = nI nw := Iv_h3 R.1
  have h9 : σ 9 = nI nl := Iv_h9 R.1
  obtain ⟨I, hb35, s1, s2, s3, s4, s5, s6, s7, t1, t2, t3, t4, t5, hz9⟩ := id R
  show G E k n 883 [(4, .int (nI (3 * j))), (3, .ref ((eG E).2.1 102)), (2, .ref ((eG E).2.1 101)), (1, .ref ((eG E).2.1 100)), (0, .ref b)] [] σ τ o
  refine g_aload_n C dL_law_883 rfl rfl ?_
  refine g_aload_n C dL_law_884 rfl rfl ?_
  refine g_iload C dL_law_885 rfl ?_
  refine g_iconst (v := 1) C dL_law_887 (by decide) ?_
  refine g_iadd C dL_law_888 ?_
  refine g_sld C X (3 * j + 1) dL_law_889 (nI_1 _) (by omega) hL e1 ?_
  refine g_aload_n C dL_law_890 rfl rfl ?_
  refine g_callLE (na := 3) C hN dL_law_891 (h_countOfX hl (eG E) σ τ o w hw) gL_law_L_countOf rfl rfl (by decide +kernel) rfl (Nat.le_of_ble_eq_true rfl) (by first | exact ⟨Nat.le_trans (by decide) hF, Nat.le_trans (by decide) hLo⟩) (by omega) ?_
  refine g_istore C [(5, _), (4, _), (3, _), (2, _), (1, _), (0, _)] dL_law_894 (by decide) rfl ?_
  refine g_aload_n C dL_law_896 rfl rfl ?_
  refine g_aload_n C dL_law_897 rfl rfl ?_
  refine g_iload C dL_law_898 rfl ?_
  refine g_iconst (v := 1) C dL_law_900 (by decide) ?_
  refine g_iadd C dL_law_901 ?_
  refine g_sld C X (3 * j + 1) dL_law_902 (nI_1 _) (by omega) hL e1 ?_
  refine g_callVEi (Cl := RX1) (T := TX1) (N := 16) (ci := 1) (q0 := 12) (na := 1) C dL_law_903 (m_countOfX hl (eG E) _ _ _ nw nl lm w (RR_IM R) (by rw [s1]; exact hw)) gL_law_X1_countOf rfl rfl (by decide +kernel) rfl rfl rfl (Nat.le_of_ble_eq_true rfl) (by first | exact ⟨Nat.le_trans (by decide) hF, Nat.le_trans (by decide) hLo⟩) (by omega) ?_
  refine g_istore C [(6, _), (5, _), (4, _), (3, _), (2, _), (1, _), (0, _)] dL_law_906 (by decide) rfl ?_
  refine g_aload_n C dL_law_908 rfl rfl ?_
  refine g_callVEi (Cl := RX1) (T := TX1) (N := 16) (ci := 1) (q0 := 12) (na := 0) C dL_law_909 (m_thrown hl (eG E) _ _ _) gL_law_X1_thrown rfl rfl (by decide +kernel) rfl rfl rfl (Nat.le_of_ble_eq_true rfl) (by first | exact ⟨Nat.le_trans (by decide) hF, Nat.le_trans (by decide) hLo⟩) (by omega) ?_
  refine g_topi (show _ = (1 : Int32) from rfl) ?_
  refine g_iload C dL_law_912 rfl ?_
  refine g_icmp_eq (tgt := 919) C dL_law_914 (by decide) (fun c_914 => ?_) (fun c_914 => absurd rfl c_914)
  refine g_iload C dL_law_919 rfl ?_
  refine g_if_ne (tgt := 936) C dL_law_921 (by decide) (fun c_921 => ?_) (fun c_921 => absurd c_921 (by decide))
  refine g_goto (tgt := 1650) C dL_law_936 (by decide) ?_
  refine g_wide (k + 1) (n + 10) (by omega) (by omega) ?_
  refine g_lv [2, 3, 4, 5, 6] [(4, .int (nI (3 * j))), (3, .ref ((eG E).2.1 102)), (2, .ref ((eG E).2.1 101)), (1, .ref ((eG E).2.1 100)), (0, .ref b)] rfl ?_
  exact kk _ _ _ _ _ _ (RR_20 (RR_20 R 0) 1)
set_option maxHeartbeats 4000000 in
set_option maxRecDepth 100000 in
theorem lc_standInsOf {E : gE} {k n b L j : Nat} {xs : Nat → Int32} {σ : gS} {τ : gT} {o : gO} {nw nl lm : Nat} {a : Nat} (A : gW E k n b L j xs) (R : RR σ τ nw nl lm) (ha : a < nw) (e1 : xs (3 * j + 1) = nI a) (kk : gK0 E k n b j) : G E k n 1089 (LV E b j) [] σ τ o := by
  obtain ⟨C, X, hN, hj, hL, hF, hLo, hk, hn⟩ := A
  have hl : (eL E).stackTraces = false := C.2.2.2.2.2.2.2.2.2
  have hIM : IM σ τ nw nl lm := RR_IM R
  have hnw := Iv_nw R.1
  have hnl := Iv_nl R.1
  have h3 : σ 3 = nI nw := Iv_h3 R.1
  have h9 : σ 9 = nI nl := Iv_h9 R.1
  obtain ⟨I, hb35, s1, s2, s3, s4, s5, s6, s7, t1, t2, t3, t4, t5, hz9⟩ := id R
  show G E k n 1089 [(4, .int (nI (3 * j))), (3, .ref ((eG E).2.1 102)), (2, .ref ((eG E).2.1 101)), (1, .ref ((eG E).2.1 100)), (0, .ref b)] [] σ τ o
  refine g_aload_n C dL_law_1089 rfl rfl ?_
  refine g_aload_n C dL_law_1090 rfl rfl ?_
  refine g_iload C dL_law_1091 rfl ?_
  refine g_iconst (v := 1) C dL_law_1093 (by decide) ?_
  refine g_iadd C dL_law_1094 ?_
  refine g_sld C X (3 * j + 1) dL_law_1095 (nI_1 _) (by omega) hL e1 ?_
  refine g_aload_n C dL_law_1096 rfl rfl ?_
  refine g_callLE (na := 3) C hN dL_law_1097 (h_standInsOf hl (eG E) σ τ o nw nl lm a I ha) gL_law_L_standInsOf rfl rfl (by decide +kernel) rfl (Nat.le_of_ble_eq_true rfl) (by first | exact ⟨Nat.le_trans (by decide) hF, Nat.le_trans (by decide) hLo⟩) (by omega) ?_
  refine g_istore C [(5, _), (4, _), (3, _), (2, _), (1, _), (0, _)] dL_law_1100 (by decide) rfl ?_
  refine g_aload_n C dL_law_1102 rfl rfl ?_
  refine g_aload_n C dL_law_1103 rfl rfl ?_
  refine g_iload C dL_law_1104 rfl ?_
  refine g_iconst (v := 1) C dL_law_1106 (by decide) ?_
  refine g_iadd C dL_law_1107 ?_
  refine g_sld C X (3 * j + 1) dL_law_1108 (nI_1 _) (by omega) hL e1 ?_
  refine g_callVEi (Cl := RX1) (T := TX1) (N := 16) (ci := 1) (q0 := 12) (na := 1) C dL_law_1109 (m_standInsOf hl (eG E) _ _ _ nw nl lm a (RR_IM R) ha) gL_law_X1_standInsOf rfl rfl (by decide +kernel) rfl rfl rfl (Nat.le_of_ble_eq_true rfl) (by first | exact ⟨Nat.le_trans (by decide) hF, Nat.le_trans (by decide) hLo⟩) (by omega) ?_
  refine g_istore C [(6, _), (5, _), (4, _), (3, _), (2, _), (1, _), (0, _)] dL_law_1112 (by decide) rfl ?_
  refine g_aload_n C dL_law_1114 rfl rfl ?_
  refine g_callVEi (Cl := RX1) (T := TX1) (N := 16) (ci := 1) (q0 := 12) (na := 0) C dL_law_1115 (m_thrown hl (eG E) _ _ _) gL_law_X1_thrown rfl rfl (by decide +kernel) rfl rfl rfl (Nat.le_of_ble_eq_true rfl) (by first | exact ⟨Nat.le_trans (by decide) hF, Nat.le_trans (by decide) hLo⟩) (by omega) ?_
  refine g_topi (show _ = (0 : Int32) from rfl) ?_
  refine g_iload C dL_law_1118 rfl ?_
  refine g_icmp_eq (tgt := 1125) C dL_law_1120 (by decide) (fun c_1120 => ?_) (fun c_1120 => absurd rfl c_1120)
  refine g_iload C dL_law_1125 rfl ?_
  refine g_if_ne (tgt := 1142) C dL_law_1127 (by decide) (fun c_1127 => absurd rfl c_1127) (fun c_1127 => ?_)
  refine g_aload_n C dL_law_1130 rfl rfl ?_
  refine g_iconst (v := 0) C dL_law_1131 (by decide) ?_
  refine g_lald C dL_law_1132 ?_
  refine g_iload C dL_law_1133 rfl ?_
  refine g_i2l C dL_law_1135 ?_
  refine g_lcmpE C (congrArg Int32.toInt64 (show bcF (τ 1 a) = sI (τ 28 a) nw from (RR_sI R ha).symm)) dL_law_1136 ?_
  refine g_if_eq (tgt := 1142) C dL_law_1137 (by decide) (fun c_1137 => ?_) (fun c_1137 => absurd rfl c_1137)
  refine g_goto (tgt := 1650) C dL_law_1142 (by decide) ?_
  refine g_wide (k + 1) (n + 10) (by omega) (by omega) ?_
  refine g_lv [2, 3, 4, 5, 6] [(4, .int (nI (3 * j))), (3, .ref ((eG E).2.1 102)), (2, .ref ((eG E).2.1 101)), (1, .ref ((eG E).2.1 100)), (0, .ref b)] rfl ?_
  exact kk _ _ _ _ _ _ (RR_20 R 0)
set_option maxHeartbeats 4000000 in
set_option maxRecDepth 100000 in
theorem lc_standInsOfX {E : gE} {k n b L j : Nat} {xs : Nat → Int32} {σ : gS} {τ : gT} {o : gO} {nw nl lm : Nat} {w : Int32} (A : gW E k n b L j xs) (R : RR σ τ nw nl lm) (hw : w < 0 ∨ ¬ w < σ 3) (e1 : xs (3 * j + 1) = w) (kk : gK0 E k n b j) : G E k n 1089 (LV E b j) [] σ τ o := by
  obtain ⟨C, X, hN, hj, hL, hF, hLo, hk, hn⟩ := A
  have hl : (eL E).stackTraces = false := C.2.2.2.2.2.2.2.2.2
  have hIM : IM σ τ nw nl lm := RR_IM R
  have hnw := Iv_nw R.1
  have hnl := Iv_nl R.1
  have h3 : σ 3 = nI nw := Iv_h3 R.1
  have h9 : σ 9 = nI nl := Iv_h9 R.1
  obtain ⟨I, hb35, s1, s2, s3, s4, s5, s6, s7, t1, t2, t3, t4, t5, hz9⟩ := id R
  show G E k n 1089 [(4, .int (nI (3 * j))), (3, .ref ((eG E).2.1 102)), (2, .ref ((eG E).2.1 101)), (1, .ref ((eG E).2.1 100)), (0, .ref b)] [] σ τ o
  refine g_aload_n C dL_law_1089 rfl rfl ?_
  refine g_aload_n C dL_law_1090 rfl rfl ?_
  refine g_iload C dL_law_1091 rfl ?_
  refine g_iconst (v := 1) C dL_law_1093 (by decide) ?_
  refine g_iadd C dL_law_1094 ?_
  refine g_sld C X (3 * j + 1) dL_law_1095 (nI_1 _) (by omega) hL e1 ?_
  refine g_aload_n C dL_law_1096 rfl rfl ?_
  refine g_callLE (na := 3) C hN dL_law_1097 (h_standInsOfX hl (eG E) σ τ o w hw) gL_law_L_standInsOf rfl rfl (by decide +kernel) rfl (Nat.le_of_ble_eq_true rfl) (by first | exact ⟨Nat.le_trans (by decide) hF, Nat.le_trans (by decide) hLo⟩) (by omega) ?_
  refine g_istore C [(5, _), (4, _), (3, _), (2, _), (1, _), (0, _)] dL_law_1100 (by decide) rfl ?_
  refine g_aload_n C dL_law_1102 rfl rfl ?_
  refine g_aload_n C dL_law_1103 rfl rfl ?_
  refine g_iload C dL_law_1104 rfl ?_
  refine g_iconst (v := 1) C dL_law_1106 (by decide) ?_
  refine g_iadd C dL_law_1107 ?_
  refine g_sld C X (3 * j + 1) dL_law_1108 (nI_1 _) (by omega) hL e1 ?_
  refine g_callVEi (Cl := RX1) (T := TX1) (N := 16) (ci := 1) (q0 := 12) (na := 1) C dL_law_1109 (m_standInsOfX hl (eG E) _ _ _ nw nl lm w (RR_IM R) (by rw [s1]; exact hw)) gL_law_X1_standInsOf rfl rfl (by decide +kernel) rfl rfl rfl (Nat.le_of_ble_eq_true rfl) (by first | exact ⟨Nat.le_trans (by decide) hF, Nat.le_trans (by decide) hLo⟩) (by omega) ?_
  refine g_istore C [(6, _), (5, _), (4, _), (3, _), (2, _), (1, _), (0, _)] dL_law_1112 (by decide) rfl ?_
  refine g_aload_n C dL_law_1114 rfl rfl ?_
  refine g_callVEi (Cl := RX1) (T := TX1) (N := 16) (ci := 1) (q0 := 12) (na := 0) C dL_law_1115 (m_thrown hl (eG E) _ _ _) gL_law_X1_thrown rfl rfl (by decide +kernel) rfl rfl rfl (Nat.le_of_ble_eq_true rfl) (by first | exact ⟨Nat.le_trans (by decide) hF, Nat.le_trans (by decide) hLo⟩) (by omega) ?_
  refine g_topi (show _ = (1 : Int32) from rfl) ?_
  refine g_iload C dL_law_1118 rfl ?_
  refine g_icmp_eq (tgt := 1125) C dL_law_1120 (by decide) (fun c_1120 => ?_) (fun c_1120 => absurd rfl c_1120)
  refine g_iload C dL_law_1125 rfl ?_
  refine g_if_ne (tgt := 1142) C dL_law_1127 (by decide) (fun c_1127 => ?_) (fun c_1127 => absurd c_1127 (by decide))
  refine g_goto (tgt := 1650) C dL_law_1142 (by decide) ?_
  refine g_wide (k + 1) (n + 10) (by omega) (by omega) ?_
  refine g_lv [2, 3, 4, 5, 6] [(4, .int (nI (3 * j))), (3, .ref ((eG E).2.1 102)), (2, .ref ((eG E).2.1 101)), (1, .ref ((eG E).2.1 100)), (0, .ref b)] rfl ?_
  exact kk _ _ _ _ _ _ (RR_20 (RR_20 R 0) 1)
set_option maxHeartbeats 4000000 in
set_option maxRecDepth 100000 in
theorem lc_mayStandFor {E : gE} {k n b L j : Nat} {xs : Nat → Int32} {σ : gS} {τ : gT} {o : gO} {nw nl lm : Nat} {a c : Nat} (A : gW E k n b L j xs) (R : RR σ τ nw nl lm) (ha : a < nw) (hc9 : c < nw) (e1 : xs (3 * j + 1) = nI a) (e2 : xs (3 * j + 2) = nI c) (kk : gK0 E k n b j) : G E k n 939 (LV E b j) [] σ τ o := by
  obtain ⟨C, X, hN, hj, hL, hF, hLo, hk, hn⟩ := A
  have hl : (eL E).stackTraces = false := C.2.2.2.2.2.2.2.2.2
  have hIM : IM σ τ nw nl lm := RR_IM R
  have hnw := Iv_nw R.1
  have hnl := Iv_nl R.1
  have h3 : σ 3 = nI nw := Iv_h3 R.1
  have h9 : σ 9 = nI nl := Iv_h9 R.1
  obtain ⟨I, hb35, s1, s2, s3, s4, s5, s6, s7, t1, t2, t3, t4, t5, hz9⟩ := id R
  show G E k n 939 [(4, .int (nI (3 * j))), (3, .ref ((eG E).2.1 102)), (2, .ref ((eG E).2.1 101)), (1, .ref ((eG E).2.1 100)), (0, .ref b)] [] σ τ o
  refine g_aload_n C dL_law_939 rfl rfl ?_
  refine g_aload_n C dL_law_940 rfl rfl ?_
  refine g_iload C dL_law_941 rfl ?_
  refine g_iconst (v := 1) C dL_law_943 (by decide) ?_
  refine g_iadd C dL_law_944 ?_
  refine g_sld C X (3 * j + 1) dL_law_945 (nI_1 _) (by omega) hL e1 ?_
  refine g_aload_n C dL_law_946 rfl rfl ?_
  refine g_iload C dL_law_947 rfl ?_
  refine g_iconst (v := 2) C dL_law_949 (by decide) ?_
  refine g_iadd C dL_law_950 ?_
  refine g_sld C X (3 * j + 2) dL_law_951 (nI_add _ 2) (by omega) hL e2 ?_
  refine g_aload_n C dL_law_952 rfl rfl ?_
  refine g_callLE (na := 4) C hN dL_law_953 (h_mayStandFor hl (eG E) σ τ o nw nl lm a c I ha hc9) gL_law_L_mayStandFor rfl rfl (by decide +kernel) rfl (Nat.le_of_ble_eq_true rfl) (by first | exact ⟨Nat.le_trans (by decide) hF, Nat.le_trans (by decide) hLo⟩) (by omega) ?_
  refine g_istore C [(5, _), (4, _), (3, _), (2, _), (1, _), (0, _)] dL_law_956 (by decide) rfl ?_
  refine g_aload_n C dL_law_958 rfl rfl ?_
  refine g_aload_n C dL_law_959 rfl rfl ?_
  refine g_iload C dL_law_960 rfl ?_
  refine g_iconst (v := 1) C dL_law_962 (by decide) ?_
  refine g_iadd C dL_law_963 ?_
  refine g_sld C X (3 * j + 1) dL_law_964 (nI_1 _) (by omega) hL e1 ?_
  refine g_aload_n C dL_law_965 rfl rfl ?_
  refine g_iload C dL_law_966 rfl ?_
  refine g_iconst (v := 2) C dL_law_968 (by decide) ?_
  refine g_iadd C dL_law_969 ?_
  refine g_sld C X (3 * j + 2) dL_law_970 (nI_add _ 2) (by omega) hL e2 ?_
  refine g_callVEi (Cl := RX1) (T := TX1) (N := 16) (ci := 1) (q0 := 12) (na := 2) C dL_law_971 (m_mayStandFor hl (eG E) _ _ _ nw nl lm a c (RR_IM R) ha hc9) gL_law_X1_mayStandFor rfl rfl (by decide +kernel) rfl rfl rfl (Nat.le_of_ble_eq_true rfl) (by first | exact ⟨Nat.le_trans (by decide) hF, Nat.le_trans (by decide) hLo⟩) (by omega) ?_
  refine g_istore C [(6, _), (5, _), (4, _), (3, _), (2, _), (1, _), (0, _)] dL_law_974 (by decide) rfl ?_
  refine g_aload_n C dL_law_976 rfl rfl ?_
  refine g_callVEi (Cl := RX1) (T := TX1) (N := 16) (ci := 1) (q0 := 12) (na := 0) C dL_law_977 (m_thrown hl (eG E) _ _ _) gL_law_X1_thrown rfl rfl (by decide +kernel) rfl rfl rfl (Nat.le_of_ble_eq_true rfl) (by first | exact ⟨Nat.le_trans (by decide) hF, Nat.le_trans (by decide) hLo⟩) (by omega) ?_
  refine g_topi (show _ = (0 : Int32) from rfl) ?_
  refine g_iload C dL_law_980 rfl ?_
  refine g_icmp_eq (tgt := 987) C dL_law_982 (by decide) (fun c_982 => ?_) (fun c_982 => absurd rfl c_982)
  refine g_iload C dL_law_987 rfl ?_
  refine g_if_ne (tgt := 1011) C dL_law_989 (by decide) (fun c_989 => absurd rfl c_989) (fun c_989 => ?_)
  refine g_aload_n C dL_law_992 rfl rfl ?_
  refine g_iconst (v := 0) C dL_law_993 (by decide) ?_
  refine g_lald C dL_law_994 ?_
  refine g_iload C dL_law_995 rfl ?_
  have heq : hb (τ 1 a) (nI c) = hb (τ 28 a) (nI c) := by rw [t2]
  refine g_if_eq (tgt := 1004) C dL_law_997 (by decide) (fun c_997 => ?_) (fun c_997 => ?_)
  · refine g_lconst (v := 0) C dL_law_1004 (by decide) ?_
    refine g_lcmpE C ((congrArg lb heq).trans (if_pos c_997)) dL_law_1005 ?_
    refine g_if_eq (tgt := 1011) C dL_law_1006 (by decide) (fun c_1006 => ?_) (fun c_1006 => absurd rfl c_1006)
    refine g_goto (tgt := 1650) C dL_law_1011 (by decide) ?_
    refine g_wide (k + 1) (n + 10) (by omega) (by omega) ?_
    refine g_lv [2, 3, 4, 5, 6] [(4, .int (nI (3 * j))), (3, .ref ((eG E).2.1 102)), (2, .ref ((eG E).2.1 101)), (1, .ref ((eG E).2.1 100)), (0, .ref b)] rfl ?_
    exact kk _ _ _ _ _ _ (RR_20 R 0)
  · refine g_lconst (v := 1) C dL_law_1000 (by decide) ?_
    refine g_goto (tgt := 1005) C dL_law_1001 (by decide) ?_
    refine g_lcmpE C ((congrArg lb heq).trans (if_neg c_997)) dL_law_1005 ?_
    refine g_if_eq (tgt := 1011) C dL_law_1006 (by decide) (fun c_1006 => ?_) (fun c_1006 => absurd rfl c_1006)
    refine g_goto (tgt := 1650) C dL_law_1011 (by decide) ?_
    refine g_wide (k + 1) (n + 10) (by omega) (by omega) ?_
    refine g_lv [2, 3, 4, 5, 6] [(4, .int (nI (3 * j))), (3, .ref ((eG E).2.1 102)), (2, .ref ((eG E).2.1 101)), (1, .ref ((eG E).2.1 100)), (0, .ref b)] rfl ?_
    exact kk _ _ _ _ _ _ (RR_20 R 0)
set_option maxHeartbeats 4000000 in
set_option maxRecDepth 100000 in
theorem lc_mayStandForX {E : gE} {k n b L j : Nat} {xs : Nat → Int32} {σ : gS} {τ : gT} {o : gO} {nw nl lm : Nat} {w v : Int32} (A : gW E k n b L j xs) (R : RR σ τ nw nl lm) (hw : w < 0 ∨ ¬ w < σ 3) (e1 : xs (3 * j + 1) = w) (e2 : xs (3 * j + 2) = v) (kk : gK0 E k n b j) : G E k n 939 (LV E b j) [] σ τ o := by
  obtain ⟨C, X, hN, hj, hL, hF, hLo, hk, hn⟩ := A
  have hl : (eL E).stackTraces = false := C.2.2.2.2.2.2.2.2.2
  have hIM : IM σ τ nw nl lm := RR_IM R
  have hnw := Iv_nw R.1
  have hnl := Iv_nl R.1
  have h3 : σ 3 = nI nw := Iv_h3 R.1
  have h9 : σ 9 = nI nl := Iv_h9 R.1
  obtain ⟨I, hb35, s1, s2, s3, s4, s5, s6, s7, t1, t2, t3, t4, t5, hz9⟩ := id R
  show G E k n 939 [(4, .int (nI (3 * j))), (3, .ref ((eG E).2.1 102)), (2, .ref ((eG E).2.1 101)), (1, .ref ((eG E).2.1 100)), (0, .ref b)] [] σ τ o
  refine g_aload_n C dL_law_939 rfl rfl ?_
  refine g_aload_n C dL_law_940 rfl rfl ?_
  refine g_iload C dL_law_941 rfl ?_
  refine g_iconst (v := 1) C dL_law_943 (by decide) ?_
  refine g_iadd C dL_law_944 ?_
  refine g_sld C X (3 * j + 1) dL_law_945 (nI_1 _) (by omega) hL e1 ?_
  refine g_aload_n C dL_law_946 rfl rfl ?_
  refine g_iload C dL_law_947 rfl ?_
  refine g_iconst (v := 2) C dL_law_949 (by decide) ?_
  refine g_iadd C dL_law_950 ?_
  refine g_sld C X (3 * j + 2) dL_law_951 (nI_add _ 2) (by omega) hL e2 ?_
  refine g_aload_n C dL_law_952 rfl rfl ?_
  refine g_callLE (na := 4) C hN dL_law_953 (h_mayStandForX hl (eG E) σ τ o w v hw) gL_law_L_mayStandFor rfl rfl (by decide +kernel) rfl (Nat.le_of_ble_eq_true rfl) (by first | exact ⟨Nat.le_trans (by decide) hF, Nat.le_trans (by decide) hLo⟩) (by omega) ?_
  refine g_istore C [(5, _), (4, _), (3, _), (2, _), (1, _), (0, _)] dL_law_956 (by decide) rfl ?_
  refine g_aload_n C dL_law_958 rfl rfl ?_
  refine g_aload_n C dL_law_959 rfl rfl ?_
  refine g_iload C dL_law_960 rfl ?_
  refine g_iconst (v := 1) C dL_law_962 (by decide) ?_
  refine g_iadd C dL_law_963 ?_
  refine g_sld C X (3 * j + 1) dL_law_964 (nI_1 _) (by omega) hL e1 ?_
  refine g_aload_n C dL_law_965 rfl rfl ?_
  refine g_iload C dL_law_966 rfl ?_
  refine g_iconst (v := 2) C dL_law_968 (by decide) ?_
  refine g_iadd C dL_law_969 ?_
  refine g_sld C X (3 * j + 2) dL_law_970 (nI_add _ 2) (by omega) hL e2 ?_
  refine g_callVEi (Cl := RX1) (T := TX1) (N := 16) (ci := 1) (q0 := 12) (na := 2) C dL_law_971 (m_mayStandForX hl (eG E) _ _ _ nw nl lm w v (RR_IM R) (Or.inl (by rw [s1]; exact hw))) gL_law_X1_mayStandFor rfl rfl (by decide +kernel) rfl rfl rfl (Nat.le_of_ble_eq_true rfl) (by first | exact ⟨Nat.le_trans (by decide) hF, Nat.le_trans (by decide) hLo⟩) (by omega) ?_
  refine g_istore C [(6, _), (5, _), (4, _), (3, _), (2, _), (1, _), (0, _)] dL_law_974 (by decide) rfl ?_
  refine g_aload_n C dL_law_976 rfl rfl ?_
  refine g_callVEi (Cl := RX1) (T := TX1) (N := 16) (ci := 1) (q0 := 12) (na := 0) C dL_law_977 (m_thrown hl (eG E) _ _ _) gL_law_X1_thrown rfl rfl (by decide +kernel) rfl rfl rfl (Nat.le_of_ble_eq_true rfl) (by first | exact ⟨Nat.le_trans (by decide) hF, Nat.le_trans (by decide) hLo⟩) (by omega) ?_
  refine g_topi (show _ = (1 : Int32) from rfl) ?_
  refine g_iload C dL_law_980 rfl ?_
  refine g_icmp_eq (tgt := 987) C dL_law_982 (by decide) (fun c_982 => ?_) (fun c_982 => absurd rfl c_982)
  refine g_iload C dL_law_987 rfl ?_
  refine g_if_ne (tgt := 1011) C dL_law_989 (by decide) (fun c_989 => ?_) (fun c_989 => absurd c_989 (by decide))
  refine g_goto (tgt := 1650) C dL_law_1011 (by decide) ?_
  refine g_wide (k + 1) (n + 10) (by omega) (by omega) ?_
  refine g_lv [2, 3, 4, 5, 6] [(4, .int (nI (3 * j))), (3, .ref ((eG E).2.1 102)), (2, .ref ((eG E).2.1 101)), (1, .ref ((eG E).2.1 100)), (0, .ref b)] rfl ?_
  exact kk _ _ _ _ _ _ (RR_20 R 1)
set_option maxHeartbeats 4000000 in
set_option maxRecDepth 100000 in
theorem lc_mayStandForY {E : gE} {k n b L j : Nat} {xs : Nat → Int32} {σ : gS} {τ : gT} {o : gO} {nw nl lm : Nat} {a : Nat} {v : Int32} (A : gW E k n b L j xs) (R : RR σ τ nw nl lm) (ha : a < nw) (hv : v < 0 ∨ ¬ v < σ 3) (e1 : xs (3 * j + 1) = nI a) (e2 : xs (3 * j + 2) = v) (kk : gK0 E k n b j) : G E k n 939 (LV E b j) [] σ τ o := by
  obtain ⟨C, X, hN, hj, hL, hF, hLo, hk, hn⟩ := A
  have hl : (eL E).stackTraces = false := C.2.2.2.2.2.2.2.2.2
  have hIM : IM σ τ nw nl lm := RR_IM R
  have hnw := Iv_nw R.1
  have hnl := Iv_nl R.1
  have h3 : σ 3 = nI nw := Iv_h3 R.1
  have h9 : σ 9 = nI nl := Iv_h9 R.1
  obtain ⟨I, hb35, s1, s2, s3, s4, s5, s6, s7, t1, t2, t3, t4, t5, hz9⟩ := id R
  show G E k n 939 [(4, .int (nI (3 * j))), (3, .ref ((eG E).2.1 102)), (2, .ref ((eG E).2.1 101)), (1, .ref ((eG E).2.1 100)), (0, .ref b)] [] σ τ o
  refine g_aload_n C dL_law_939 rfl rfl ?_
  refine g_aload_n C dL_law_940 rfl rfl ?_
  refine g_iload C dL_law_941 rfl ?_
  refine g_iconst (v := 1) C dL_law_943 (by decide) ?_
  refine g_iadd C dL_law_944 ?_
  refine g_sld C X (3 * j + 1) dL_law_945 (nI_1 _) (by omega) hL e1 ?_
  refine g_aload_n C dL_law_946 rfl rfl ?_
  refine g_iload C dL_law_947 rfl ?_
  refine g_iconst (v := 2) C dL_law_949 (by decide) ?_
  refine g_iadd C dL_law_950 ?_
  refine g_sld C X (3 * j + 2) dL_law_951 (nI_add _ 2) (by omega) hL e2 ?_
  refine g_aload_n C dL_law_952 rfl rfl ?_
  refine g_callLE (na := 4) C hN dL_law_953 (h_mayStandForY hl (eG E) σ τ o nw nl lm a v I ha hv) gL_law_L_mayStandFor rfl rfl (by decide +kernel) rfl (Nat.le_of_ble_eq_true rfl) (by first | exact ⟨Nat.le_trans (by decide) hF, Nat.le_trans (by decide) hLo⟩) (by omega) ?_
  refine g_istore C [(5, _), (4, _), (3, _), (2, _), (1, _), (0, _)] dL_law_956 (by decide) rfl ?_
  refine g_aload_n C dL_law_958 rfl rfl ?_
  refine g_aload_n C dL_law_959 rfl rfl ?_
  refine g_iload C dL_law_960 rfl ?_
  refine g_iconst (v := 1) C dL_law_962 (by decide) ?_
  refine g_iadd C dL_law_963 ?_
  refine g_sld C X (3 * j + 1) dL_law_964 (nI_1 _) (by omega) hL e1 ?_
  refine g_aload_n C dL_law_965 rfl rfl ?_
  refine g_iload C dL_law_966 rfl ?_
  refine g_iconst (v := 2) C dL_law_968 (by decide) ?_
  refine g_iadd C dL_law_969 ?_
  refine g_sld C X (3 * j + 2) dL_law_970 (nI_add _ 2) (by omega) hL e2 ?_
  refine g_callVEi (Cl := RX1) (T := TX1) (N := 16) (ci := 1) (q0 := 12) (na := 2) C dL_law_971 (m_mayStandForX hl (eG E) _ _ _ nw nl lm (nI a) v (RR_IM R) (Or.inr (by rw [s1]; exact hv))) gL_law_X1_mayStandFor rfl rfl (by decide +kernel) rfl rfl rfl (Nat.le_of_ble_eq_true rfl) (by first | exact ⟨Nat.le_trans (by decide) hF, Nat.le_trans (by decide) hLo⟩) (by omega) ?_
  refine g_istore C [(6, _), (5, _), (4, _), (3, _), (2, _), (1, _), (0, _)] dL_law_974 (by decide) rfl ?_
  refine g_aload_n C dL_law_976 rfl rfl ?_
  refine g_callVEi (Cl := RX1) (T := TX1) (N := 16) (ci := 1) (q0 := 12) (na := 0) C dL_law_977 (m_thrown hl (eG E) _ _ _) gL_law_X1_thrown rfl rfl (by decide +kernel) rfl rfl rfl (Nat.le_of_ble_eq_true rfl) (by first | exact ⟨Nat.le_trans (by decide) hF, Nat.le_trans (by decide) hLo⟩) (by omega) ?_
  refine g_topi (show _ = (1 : Int32) from rfl) ?_
  refine g_iload C dL_law_980 rfl ?_
  refine g_icmp_eq (tgt := 987) C dL_law_982 (by decide) (fun c_982 => ?_) (fun c_982 => absurd rfl c_982)
  refine g_iload C dL_law_987 rfl ?_
  refine g_if_ne (tgt := 1011) C dL_law_989 (by decide) (fun c_989 => ?_) (fun c_989 => absurd c_989 (by decide))
  refine g_goto (tgt := 1650) C dL_law_1011 (by decide) ?_
  refine g_wide (k + 1) (n + 10) (by omega) (by omega) ?_
  refine g_lv [2, 3, 4, 5, 6] [(4, .int (nI (3 * j))), (3, .ref ((eG E).2.1 102)), (2, .ref ((eG E).2.1 101)), (1, .ref ((eG E).2.1 100)), (0, .ref b)] rfl ?_
  exact kk _ _ _ _ _ _ (RR_20 R 1)
set_option maxHeartbeats 4000000 in
set_option maxRecDepth 100000 in
theorem lc_mayJoin {E : gE} {k n b L j : Nat} {xs : Nat → Int32} {σ : gS} {τ : gT} {o : gO} {nw nl lm : Nat} {a c : Nat} (A : gW E k n b L j xs) (R : RR σ τ nw nl lm) (ha : a < nw) (hc9 : c < nw) (e1 : xs (3 * j + 1) = nI a) (e2 : xs (3 * j + 2) = nI c) (kk : gK0 E k n b j) : G E k n 1014 (LV E b j) [] σ τ o := by
  obtain ⟨C, X, hN, hj, hL, hF, hLo, hk, hn⟩ := A
  have hl : (eL E).stackTraces = false := C.2.2.2.2.2.2.2.2.2
  have hIM : IM σ τ nw nl lm := RR_IM R
  have hnw := Iv_nw R.1
  have hnl := Iv_nl R.1
  have h3 : σ 3 = nI nw := Iv_h3 R.1
  have h9 : σ 9 = nI nl := Iv_h9 R.1
  obtain ⟨I, hb35, s1, s2, s3, s4, s5, s6, s7, t1, t2, t3, t4, t5, hz9⟩ := id R
  show G E k n 1014 [(4, .int (nI (3 * j))), (3, .ref ((eG E).2.1 102)), (2, .ref ((eG E).2.1 101)), (1, .ref ((eG E).2.1 100)), (0, .ref b)] [] σ τ o
  refine g_aload_n C dL_law_1014 rfl rfl ?_
  refine g_aload_n C dL_law_1015 rfl rfl ?_
  refine g_iload C dL_law_1016 rfl ?_
  refine g_iconst (v := 1) C dL_law_1018 (by decide) ?_
  refine g_iadd C dL_law_1019 ?_
  refine g_sld C X (3 * j + 1) dL_law_1020 (nI_1 _) (by omega) hL e1 ?_
  refine g_aload_n C dL_law_1021 rfl rfl ?_
  refine g_iload C dL_law_1022 rfl ?_
  refine g_iconst (v := 2) C dL_law_1024 (by decide) ?_
  refine g_iadd C dL_law_1025 ?_
  refine g_sld C X (3 * j + 2) dL_law_1026 (nI_add _ 2) (by omega) hL e2 ?_
  refine g_aload_n C dL_law_1027 rfl rfl ?_
  refine g_callLE (na := 4) C hN dL_law_1028 (h_mayJoin hl (eG E) σ τ o nw nl lm a c I ha hc9) gL_law_L_mayJoin rfl rfl (by decide +kernel) rfl (Nat.le_of_ble_eq_true rfl) (by first | exact ⟨Nat.le_trans (by decide) hF, Nat.le_trans (by decide) hLo⟩) (by omega) ?_
  refine g_istore C [(5, _), (4, _), (3, _), (2, _), (1, _), (0, _)] dL_law_1031 (by decide) rfl ?_
  refine g_aload_n C dL_law_1033 rfl rfl ?_
  refine g_aload_n C dL_law_1034 rfl rfl ?_
  refine g_iload C dL_law_1035 rfl ?_
  refine g_iconst (v := 1) C dL_law_1037 (by decide) ?_
  refine g_iadd C dL_law_1038 ?_
  refine g_sld C X (3 * j + 1) dL_law_1039 (nI_1 _) (by omega) hL e1 ?_
  refine g_aload_n C dL_law_1040 rfl rfl ?_
  refine g_iload C dL_law_1041 rfl ?_
  refine g_iconst (v := 2) C dL_law_1043 (by decide) ?_
  refine g_iadd C dL_law_1044 ?_
  refine g_sld C X (3 * j + 2) dL_law_1045 (nI_add _ 2) (by omega) hL e2 ?_
  refine g_callVEi (Cl := RX1) (T := TX1) (N := 16) (ci := 1) (q0 := 12) (na := 2) C dL_law_1046 (m_mayJoin hl (eG E) _ _ _ nw nl lm a c (RR_IM R) ha hc9) gL_law_X1_mayJoin rfl rfl (by decide +kernel) rfl rfl rfl (Nat.le_of_ble_eq_true rfl) (by first | exact ⟨Nat.le_trans (by decide) hF, Nat.le_trans (by decide) hLo⟩) (by omega) ?_
  refine g_istore C [(6, _), (5, _), (4, _), (3, _), (2, _), (1, _), (0, _)] dL_law_1049 (by decide) rfl ?_
  refine g_aload_n C dL_law_1051 rfl rfl ?_
  refine g_callVEi (Cl := RX1) (T := TX1) (N := 16) (ci := 1) (q0 := 12) (na := 0) C dL_law_1052 (m_thrown hl (eG E) _ _ _) gL_law_X1_thrown rfl rfl (by decide +kernel) rfl rfl rfl (Nat.le_of_ble_eq_true rfl) (by first | exact ⟨Nat.le_trans (by decide) hF, Nat.le_trans (by decide) hLo⟩) (by omega) ?_
  refine g_topi (show _ = (0 : Int32) from rfl) ?_
  refine g_iload C dL_law_1055 rfl ?_
  refine g_icmp_eq (tgt := 1062) C dL_law_1057 (by decide) (fun c_1057 => ?_) (fun c_1057 => absurd rfl c_1057)
  refine g_iload C dL_law_1062 rfl ?_
  refine g_if_ne (tgt := 1086) C dL_law_1064 (by decide) (fun c_1064 => absurd rfl c_1064) (fun c_1064 => ?_)
  refine g_aload_n C dL_law_1067 rfl rfl ?_
  refine g_iconst (v := 0) C dL_law_1068 (by decide) ?_
  refine g_lald C dL_law_1069 ?_
  refine g_iload C dL_law_1070 rfl ?_
  have heq : hb (τ 2 a) (nI c) = hb (τ 29 a) (nI c) := by rw [t3]
  refine g_if_eq (tgt := 1079) C dL_law_1072 (by decide) (fun c_1072 => ?_) (fun c_1072 => ?_)
  · refine g_lconst (v := 0) C dL_law_1079 (by decide) ?_
    refine g_lcmpE C ((congrArg lb heq).trans (if_pos c_1072)) dL_law_1080 ?_
    refine g_if_eq (tgt := 1086) C dL_law_1081 (by decide) (fun c_1081 => ?_) (fun c_1081 => absurd rfl c_1081)
    refine g_goto (tgt := 1650) C dL_law_1086 (by decide) ?_
    refine g_wide (k + 1) (n + 10) (by omega) (by omega) ?_
    refine g_lv [2, 3, 4, 5, 6] [(4, .int (nI (3 * j))), (3, .ref ((eG E).2.1 102)), (2, .ref ((eG E).2.1 101)), (1, .ref ((eG E).2.1 100)), (0, .ref b)] rfl ?_
    exact kk _ _ _ _ _ _ (RR_20 R 0)
  · refine g_lconst (v := 1) C dL_law_1075 (by decide) ?_
    refine g_goto (tgt := 1080) C dL_law_1076 (by decide) ?_
    refine g_lcmpE C ((congrArg lb heq).trans (if_neg c_1072)) dL_law_1080 ?_
    refine g_if_eq (tgt := 1086) C dL_law_1081 (by decide) (fun c_1081 => ?_) (fun c_1081 => absurd rfl c_1081)
    refine g_goto (tgt := 1650) C dL_law_1086 (by decide) ?_
    refine g_wide (k + 1) (n + 10) (by omega) (by omega) ?_
    refine g_lv [2, 3, 4, 5, 6] [(4, .int (nI (3 * j))), (3, .ref ((eG E).2.1 102)), (2, .ref ((eG E).2.1 101)), (1, .ref ((eG E).2.1 100)), (0, .ref b)] rfl ?_
    exact kk _ _ _ _ _ _ (RR_20 R 0)
set_option maxHeartbeats 4000000 in
set_option maxRecDepth 100000 in
theorem lc_mayJoinX {E : gE} {k n b L j : Nat} {xs : Nat → Int32} {σ : gS} {τ : gT} {o : gO} {nw nl lm : Nat} {w v : Int32} (A : gW E k n b L j xs) (R : RR σ τ nw nl lm) (hw : w < 0 ∨ ¬ w < σ 3) (e1 : xs (3 * j + 1) = w) (e2 : xs (3 * j + 2) = v) (kk : gK0 E k n b j) : G E k n 1014 (LV E b j) [] σ τ o := by
  obtain ⟨C, X, hN, hj, hL, hF, hLo, hk, hn⟩ := A
  have hl : (eL E).stackTraces = false := C.2.2.2.2.2.2.2.2.2
  have hIM : IM σ τ nw nl lm := RR_IM R
  have hnw := Iv_nw R.1
  have hnl := Iv_nl R.1
  have h3 : σ 3 = nI nw := Iv_h3 R.1
  have h9 : σ 9 = nI nl := Iv_h9 R.1
  obtain ⟨I, hb35, s1, s2, s3, s4, s5, s6, s7, t1, t2, t3, t4, t5, hz9⟩ := id R
  show G E k n 1014 [(4, .int (nI (3 * j))), (3, .ref ((eG E).2.1 102)), (2, .ref ((eG E).2.1 101)), (1, .ref ((eG E).2.1 100)), (0, .ref b)] [] σ τ o
  refine g_aload_n C dL_law_1014 rfl rfl ?_
  refine g_aload_n C dL_law_1015 rfl rfl ?_
  refine g_iload C dL_law_1016 rfl ?_
  refine g_iconst (v := 1) C dL_law_1018 (by decide) ?_
  refine g_iadd C dL_law_1019 ?_
  refine g_sld C X (3 * j + 1) dL_law_1020 (nI_1 _) (by omega) hL e1 ?_
  refine g_aload_n C dL_law_1021 rfl rfl ?_
  refine g_iload C dL_law_1022 rfl ?_
  refine g_iconst (v := 2) C dL_law_1024 (by decide) ?_
  refine g_iadd C dL_law_1025 ?_
  refine g_sld C X (3 * j + 2) dL_law_1026 (nI_add _ 2) (by omega) hL e2 ?_
  refine g_aload_n C dL_law_1027 rfl rfl ?_
  refine g_callLE (na := 4) C hN dL_law_1028 (h_mayJoinX hl (eG E) σ τ o w v hw) gL_law_L_mayJoin rfl rfl (by decide +kernel) rfl (Nat.le_of_ble_eq_true rfl) (by first | exact ⟨Nat.le_trans (by decide) hF, Nat.le_trans (by decide) hLo⟩) (by omega) ?_
  refine g_istore C [(5, _), (4, _), (3, _), (2, _), (1, _), (0, _)] dL_law_1031 (by decide) rfl ?_
  refine g_aload_n C dL_law_1033 rfl rfl ?_
  refine g_aload_n C dL_law_1034 rfl rfl ?_
  refine g_iload C dL_law_1035 rfl ?_
  refine g_iconst (v := 1) C dL_law_1037 (by decide) ?_
  refine g_iadd C dL_law_1038 ?_
  refine g_sld C X (3 * j + 1) dL_law_1039 (nI_1 _) (by omega) hL e1 ?_
  refine g_aload_n C dL_law_1040 rfl rfl ?_
  refine g_iload C dL_law_1041 rfl ?_
  refine g_iconst (v := 2) C dL_law_1043 (by decide) ?_
  refine g_iadd C dL_law_1044 ?_
  refine g_sld C X (3 * j + 2) dL_law_1045 (nI_add _ 2) (by omega) hL e2 ?_
  refine g_callVEi (Cl := RX1) (T := TX1) (N := 16) (ci := 1) (q0 := 12) (na := 2) C dL_law_1046 (m_mayJoinX hl (eG E) _ _ _ nw nl lm w v (RR_IM R) (Or.inl (by rw [s1]; exact hw))) gL_law_X1_mayJoin rfl rfl (by decide +kernel) rfl rfl rfl (Nat.le_of_ble_eq_true rfl) (by first | exact ⟨Nat.le_trans (by decide) hF, Nat.le_trans (by decide) hLo⟩) (by omega) ?_
  refine g_istore C [(6, _), (5, _), (4, _), (3, _), (2, _), (1, _), (0, _)] dL_law_1049 (by decide) rfl ?_
  refine g_aload_n C dL_law_1051 rfl rfl ?_
  refine g_callVEi (Cl := RX1) (T := TX1) (N := 16) (ci := 1) (q0 := 12) (na := 0) C dL_law_1052 (m_thrown hl (eG E) _ _ _) gL_law_X1_thrown rfl rfl (by decide +kernel) rfl rfl rfl (Nat.le_of_ble_eq_true rfl) (by first | exact ⟨Nat.le_trans (by decide) hF, Nat.le_trans (by decide) hLo⟩) (by omega) ?_
  refine g_topi (show _ = (1 : Int32) from rfl) ?_
  refine g_iload C dL_law_1055 rfl ?_
  refine g_icmp_eq (tgt := 1062) C dL_law_1057 (by decide) (fun c_1057 => ?_) (fun c_1057 => absurd rfl c_1057)
  refine g_iload C dL_law_1062 rfl ?_
  refine g_if_ne (tgt := 1086) C dL_law_1064 (by decide) (fun c_1064 => ?_) (fun c_1064 => absurd c_1064 (by decide))
  refine g_goto (tgt := 1650) C dL_law_1086 (by decide) ?_
  refine g_wide (k + 1) (n + 10) (by omega) (by omega) ?_
  refine g_lv [2, 3, 4, 5, 6] [(4, .int (nI (3 * j))), (3, .ref ((eG E).2.1 102)), (2, .ref ((eG E).2.1 101)), (1, .ref ((eG E).2.1 100)), (0, .ref b)] rfl ?_
  exact kk _ _ _ _ _ _ (RR_20 R 1)
set_option maxHeartbeats 4000000 in
set_option maxRecDepth 100000 in
theorem lc_mayJoinY {E : gE} {k n b L j : Nat} {xs : Nat → Int32} {σ : gS} {τ : gT} {o : gO} {nw nl lm : Nat} {a : Nat} {v : Int32} (A : gW E k n b L j xs) (R : RR σ τ nw nl lm) (ha : a < nw) (hv : v < 0 ∨ ¬ v < σ 3) (e1 : xs (3 * j + 1) = nI a) (e2 : xs (3 * j + 2) = v) (kk : gK0 E k n b j) : G E k n 1014 (LV E b j) [] σ τ o := by
  obtain ⟨C, X, hN, hj, hL, hF, hLo, hk, hn⟩ := A
  have hl : (eL E).stackTraces = false := C.2.2.2.2.2.2.2.2.2
  have hIM : IM σ τ nw nl lm := RR_IM R
  have hnw := Iv_nw R.1
  have hnl := Iv_nl R.1
  have h3 : σ 3 = nI nw := Iv_h3 R.1
  have h9 : σ 9 = nI nl := Iv_h9 R.1
  obtain ⟨I, hb35, s1, s2, s3, s4, s5, s6, s7, t1, t2, t3, t4, t5, hz9⟩ := id R
  show G E k n 1014 [(4, .int (nI (3 * j))), (3, .ref ((eG E).2.1 102)), (2, .ref ((eG E).2.1 101)), (1, .ref ((eG E).2.1 100)), (0, .ref b)] [] σ τ o
  refine g_aload_n C dL_law_1014 rfl rfl ?_
  refine g_aload_n C dL_law_1015 rfl rfl ?_
  refine g_iload C dL_law_1016 rfl ?_
  refine g_iconst (v := 1) C dL_law_1018 (by decide) ?_
  refine g_iadd C dL_law_1019 ?_
  refine g_sld C X (3 * j + 1) dL_law_1020 (nI_1 _) (by omega) hL e1 ?_
  refine g_aload_n C dL_law_1021 rfl rfl ?_
  refine g_iload C dL_law_1022 rfl ?_
  refine g_iconst (v := 2) C dL_law_1024 (by decide) ?_
  refine g_iadd C dL_law_1025 ?_
  refine g_sld C X (3 * j + 2) dL_law_1026 (nI_add _ 2) (by omega) hL e2 ?_
  refine g_aload_n C dL_law_1027 rfl rfl ?_
  refine g_callLE (na := 4) C hN dL_law_1028 (h_mayJoinY hl (eG E) σ τ o nw nl lm a v I ha hv) gL_law_L_mayJoin rfl rfl (by decide +kernel) rfl (Nat.le_of_ble_eq_true rfl) (by first | exact ⟨Nat.le_trans (by decide) hF, Nat.le_trans (by decide) hLo⟩) (by omega) ?_
  refine g_istore C [(5, _), (4, _), (3, _), (2, _), (1, _), (0, _)] dL_law_1031 (by decide) rfl ?_
  refine g_aload_n C dL_law_1033 rfl rfl ?_
  refine g_aload_n C dL_law_1034 rfl rfl ?_
  refine g_iload C dL_law_1035 rfl ?_
  refine g_iconst (v := 1) C dL_law_1037 (by decide) ?_
  refine g_iadd C dL_law_1038 ?_
  refine g_sld C X (3 * j + 1) dL_law_1039 (nI_1 _) (by omega) hL e1 ?_
  refine g_aload_n C dL_law_1040 rfl rfl ?_
  refine g_iload C dL_law_1041 rfl ?_
  refine g_iconst (v := 2) C dL_law_1043 (by decide) ?_
  refine g_iadd C dL_law_1044 ?_
  refine g_sld C X (3 * j + 2) dL_law_1045 (nI_add _ 2) (by omega) hL e2 ?_
  refine g_callVEi (Cl := RX1) (T := TX1) (N := 16) (ci := 1) (q0 := 12) (na := 2) C dL_law_1046 (m_mayJoinX hl (eG E) _ _ _ nw nl lm (nI a) v (RR_IM R) (Or.inr (by rw [s1]; exact hv))) gL_law_X1_mayJoin rfl rfl (by decide +kernel) rfl rfl rfl (Nat.le_of_ble_eq_true rfl) (by first | exact ⟨Nat.le_trans (by decide) hF, Nat.le_trans (by decide) hLo⟩) (by omega) ?_
  refine g_istore C [(6, _), (5, _), (4, _), (3, _), (2, _), (1, _), (0, _)] dL_law_1049 (by decide) rfl ?_
  refine g_aload_n C dL_law_1051 rfl rfl ?_
  refine g_callVEi (Cl := RX1) (T := TX1) (N := 16) (ci := 1) (q0 := 12) (na := 0) C dL_law_1052 (m_thrown hl (eG E) _ _ _) gL_law_X1_thrown rfl rfl (by decide +kernel) rfl rfl rfl (Nat.le_of_ble_eq_true rfl) (by first | exact ⟨Nat.le_trans (by decide) hF, Nat.le_trans (by decide) hLo⟩) (by omega) ?_
  refine g_topi (show _ = (1 : Int32) from rfl) ?_
  refine g_iload C dL_law_1055 rfl ?_
  refine g_icmp_eq (tgt := 1062) C dL_law_1057 (by decide) (fun c_1057 => ?_) (fun c_1057 => absurd rfl c_1057)
  refine g_iload C dL_law_1062 rfl ?_
  refine g_if_ne (tgt := 1086) C dL_law_1064 (by decide) (fun c_1064 => ?_) (fun c_1064 => absurd c_1064 (by decide))
  refine g_goto (tgt := 1650) C dL_law_1086 (by decide) ?_
  refine g_wide (k + 1) (n + 10) (by omega) (by omega) ?_
  refine g_lv [2, 3, 4, 5, 6] [(4, .int (nI (3 * j))), (3, .ref ((eG E).2.1 102)), (2, .ref ((eG E).2.1 101)), (1, .ref ((eG E).2.1 100)), (0, .ref b)] rfl ?_
  exact kk _ _ _ _ _ _ (RR_20 R 1)
set_option maxHeartbeats 4000000 in
set_option maxRecDepth 100000 in
theorem lc_wordAt {E : gE} {k n b L j : Nat} {xs : Nat → Int32} {σ : gS} {τ : gT} {o : gO} {nw nl lm : Nat} {p : Nat} (A : gW E k n b L j xs) (R : RR σ τ nw nl lm) (hp : p < nl) (e1 : xs (3 * j + 1) = nI p) (kk : gK0 E k n b j) : G E k n 1197 (LV E b j) [] σ τ o := by
  obtain ⟨C, X, hN, hj, hL, hF, hLo, hk, hn⟩ := A
  have hl : (eL E).stackTraces = false := C.2.2.2.2.2.2.2.2.2
  have hIM : IM σ τ nw nl lm := RR_IM R
  have hnw := Iv_nw R.1
  have hnl := Iv_nl R.1
  have h3 : σ 3 = nI nw := Iv_h3 R.1
  have h9 : σ 9 = nI nl := Iv_h9 R.1
  obtain ⟨I, hb35, s1, s2, s3, s4, s5, s6, s7, t1, t2, t3, t4, t5, hz9⟩ := id R
  show G E k n 1197 [(4, .int (nI (3 * j))), (3, .ref ((eG E).2.1 102)), (2, .ref ((eG E).2.1 101)), (1, .ref ((eG E).2.1 100)), (0, .ref b)] [] σ τ o
  refine g_aload_n C dL_law_1197 rfl rfl ?_
  refine g_aload_n C dL_law_1198 rfl rfl ?_
  refine g_iload C dL_law_1199 rfl ?_
  refine g_iconst (v := 1) C dL_law_1201 (by decide) ?_
  refine g_iadd C dL_law_1202 ?_
  refine g_sld C X (3 * j + 1) dL_law_1203 (nI_1 _) (by omega) hL e1 ?_
  refine g_aload_n C dL_law_1204 rfl rfl ?_
  refine g_callLE (na := 3) C hN dL_law_1205 (h_wordAt hl (eG E) σ τ o nw nl lm p I hp) gL_law_L_wordAt rfl rfl (by decide +kernel) rfl (Nat.le_of_ble_eq_true rfl) (by first | exact ⟨Nat.le_trans (by decide) hF, Nat.le_trans (by decide) hLo⟩) (by omega) ?_
  refine g_istore C [(5, _), (4, _), (3, _), (2, _), (1, _), (0, _)] dL_law_1208 (by decide) rfl ?_
  refine g_aload_n C dL_law_1210 rfl rfl ?_
  refine g_aload_n C dL_law_1211 rfl rfl ?_
  refine g_iload C dL_law_1212 rfl ?_
  refine g_iconst (v := 1) C dL_law_1214 (by decide) ?_
  refine g_iadd C dL_law_1215 ?_
  refine g_sld C X (3 * j + 1) dL_law_1216 (nI_1 _) (by omega) hL e1 ?_
  refine g_callVEi (Cl := RX1) (T := TX1) (N := 16) (ci := 1) (q0 := 12) (na := 1) C dL_law_1217 (m_wordAt hl (eG E) _ _ _ nw nl lm p (RR_IM R) hp) gL_law_X1_wordAt rfl rfl (by decide +kernel) rfl rfl rfl (Nat.le_of_ble_eq_true rfl) (by first | exact ⟨Nat.le_trans (by decide) hF, Nat.le_trans (by decide) hLo⟩) (by omega) ?_
  refine g_istore C [(6, _), (5, _), (4, _), (3, _), (2, _), (1, _), (0, _)] dL_law_1220 (by decide) rfl ?_
  refine g_aload_n C dL_law_1222 rfl rfl ?_
  refine g_callVEi (Cl := RX1) (T := TX1) (N := 16) (ci := 1) (q0 := 12) (na := 0) C dL_law_1223 (m_thrown hl (eG E) _ _ _) gL_law_X1_thrown rfl rfl (by decide +kernel) rfl rfl rfl (Nat.le_of_ble_eq_true rfl) (by first | exact ⟨Nat.le_trans (by decide) hF, Nat.le_trans (by decide) hLo⟩) (by omega) ?_
  refine g_topi (show _ = (0 : Int32) from rfl) ?_
  refine g_iload C dL_law_1226 rfl ?_
  refine g_icmp_eq (tgt := 1233) C dL_law_1228 (by decide) (fun c_1228 => ?_) (fun c_1228 => absurd rfl c_1228)
  refine g_iload C dL_law_1233 rfl ?_
  refine g_if_ne (tgt := 1250) C dL_law_1235 (by decide) (fun c_1235 => absurd rfl c_1235) (fun c_1235 => ?_)
  refine g_aload_n C dL_law_1238 rfl rfl ?_
  refine g_iconst (v := 0) C dL_law_1239 (by decide) ?_
  refine g_lald C dL_law_1240 ?_
  refine g_iload C dL_law_1241 rfl ?_
  refine g_i2l C dL_law_1243 ?_
  refine g_lcmpE C (congrArg Int32.toInt64 (show τ 7 p = τ 31 p from by rw [t4])) dL_law_1244 ?_
  refine g_if_eq (tgt := 1250) C dL_law_1245 (by decide) (fun c_1245 => ?_) (fun c_1245 => absurd rfl c_1245)
  refine g_goto (tgt := 1650) C dL_law_1250 (by decide) ?_
  refine g_wide (k + 1) (n + 10) (by omega) (by omega) ?_
  refine g_lv [2, 3, 4, 5, 6] [(4, .int (nI (3 * j))), (3, .ref ((eG E).2.1 102)), (2, .ref ((eG E).2.1 101)), (1, .ref ((eG E).2.1 100)), (0, .ref b)] rfl ?_
  exact kk _ _ _ _ _ _ (RR_20 R 0)
set_option maxHeartbeats 4000000 in
set_option maxRecDepth 100000 in
theorem lc_wordAtX {E : gE} {k n b L j : Nat} {xs : Nat → Int32} {σ : gS} {τ : gT} {o : gO} {nw nl lm : Nat} {w : Int32} (A : gW E k n b L j xs) (R : RR σ τ nw nl lm) (hw : w < 0 ∨ ¬ w < σ 9) (e1 : xs (3 * j + 1) = w) (kk : gK0 E k n b j) : G E k n 1197 (LV E b j) [] σ τ o := by
  obtain ⟨C, X, hN, hj, hL, hF, hLo, hk, hn⟩ := A
  have hl : (eL E).stackTraces = false := C.2.2.2.2.2.2.2.2.2
  have hIM : IM σ τ nw nl lm := RR_IM R
  have hnw := Iv_nw R.1
  have hnl := Iv_nl R.1
  have h3 : σ 3 = nI nw := Iv_h3 R.1
  have h9 : σ 9 = nI nl := Iv_h9 R.1
  obtain ⟨I, hb35, s1, s2, s3, s4, s5, s6, s7, t1, t2, t3, t4, t5, hz9⟩ := id R
  show G E k n 1197 [(4, .int (nI (3 * j))), (3, .ref ((eG E).2.1 102)), (2, .ref ((eG E).2.1 101)), (1, .ref ((eG E).2.1 100)), (0, .ref b)] [] σ τ o
  refine g_aload_n C dL_law_1197 rfl rfl ?_
  refine g_aload_n C dL_law_1198 rfl rfl ?_
  refine g_iload C dL_law_1199 rfl ?_
  refine g_iconst (v := 1) C dL_law_1201 (by decide) ?_
  refine g_iadd C dL_law_1202 ?_
  refine g_sld C X (3 * j + 1) dL_law_1203 (nI_1 _) (by omega) hL e1 ?_
  refine g_aload_n C dL_law_1204 rfl rfl ?_
  refine g_callLE (na := 3) C hN dL_law_1205 (h_wordAtX hl (eG E) σ τ o w hw) gL_law_L_wordAt rfl rfl (by decide +kernel) rfl (Nat.le_of_ble_eq_true rfl) (by first | exact ⟨Nat.le_trans (by decide) hF, Nat.le_trans (by decide) hLo⟩) (by omega) ?_
  refine g_istore C [(5, _), (4, _), (3, _), (2, _), (1, _), (0, _)] dL_law_1208 (by decide) rfl ?_
  refine g_aload_n C dL_law_1210 rfl rfl ?_
  refine g_aload_n C dL_law_1211 rfl rfl ?_
  refine g_iload C dL_law_1212 rfl ?_
  refine g_iconst (v := 1) C dL_law_1214 (by decide) ?_
  refine g_iadd C dL_law_1215 ?_
  refine g_sld C X (3 * j + 1) dL_law_1216 (nI_1 _) (by omega) hL e1 ?_
  refine g_callVEi (Cl := RX1) (T := TX1) (N := 16) (ci := 1) (q0 := 12) (na := 1) C dL_law_1217 (m_wordAtX hl (eG E) _ _ _ nw nl lm w (RR_IM R) (by rw [s5]; exact hw)) gL_law_X1_wordAt rfl rfl (by decide +kernel) rfl rfl rfl (Nat.le_of_ble_eq_true rfl) (by first | exact ⟨Nat.le_trans (by decide) hF, Nat.le_trans (by decide) hLo⟩) (by omega) ?_
  refine g_istore C [(6, _), (5, _), (4, _), (3, _), (2, _), (1, _), (0, _)] dL_law_1220 (by decide) rfl ?_
  refine g_aload_n C dL_law_1222 rfl rfl ?_
  refine g_callVEi (Cl := RX1) (T := TX1) (N := 16) (ci := 1) (q0 := 12) (na := 0) C dL_law_1223 (m_thrown hl (eG E) _ _ _) gL_law_X1_thrown rfl rfl (by decide +kernel) rfl rfl rfl (Nat.le_of_ble_eq_true rfl) (by first | exact ⟨Nat.le_trans (by decide) hF, Nat.le_trans (by decide) hLo⟩) (by omega) ?_
  refine g_topi (show _ = (1 : Int32) from rfl) ?_
  refine g_iload C dL_law_1226 rfl ?_
  refine g_icmp_eq (tgt := 1233) C dL_law_1228 (by decide) (fun c_1228 => ?_) (fun c_1228 => absurd rfl c_1228)
  refine g_iload C dL_law_1233 rfl ?_
  refine g_if_ne (tgt := 1250) C dL_law_1235 (by decide) (fun c_1235 => ?_) (fun c_1235 => absurd c_1235 (by decide))
  refine g_goto (tgt := 1650) C dL_law_1250 (by decide) ?_
  refine g_wide (k + 1) (n + 10) (by omega) (by omega) ?_
  refine g_lv [2, 3, 4, 5, 6] [(4, .int (nI (3 * j))), (3, .ref ((eG E).2.1 102)), (2, .ref ((eG E).2.1 101)), (1, .ref ((eG E).2.1 100)), (0, .ref b)] rfl ?_
  exact kk _ _ _ _ _ _ (RR_20 (RR_20 R 0) 1)
set_option maxHeartbeats 4000000 in
set_option maxRecDepth 100000 in
theorem lc_isJoined {E : gE} {k n b L j : Nat} {xs : Nat → Int32} {σ : gS} {τ : gT} {o : gO} {nw nl lm : Nat} {p : Nat} (A : gW E k n b L j xs) (R : RR σ τ nw nl lm) (hp : p < nl) (e1 : xs (3 * j + 1) = nI p) (kk : gK0 E k n b j) : G E k n 1253 (LV E b j) [] σ τ o := by
  obtain ⟨C, X, hN, hj, hL, hF, hLo, hk, hn⟩ := A
  have hl : (eL E).stackTraces = false := C.2.2.2.2.2.2.2.2.2
  have hIM : IM σ τ nw nl lm := RR_IM R
  have hnw := Iv_nw R.1
  have hnl := Iv_nl R.1
  have h3 : σ 3 = nI nw := Iv_h3 R.1
  have h9 : σ 9 = nI nl := Iv_h9 R.1
  obtain ⟨I, hb35, s1, s2, s3, s4, s5, s6, s7, t1, t2, t3, t4, t5, hz9⟩ := id R
  show G E k n 1253 [(4, .int (nI (3 * j))), (3, .ref ((eG E).2.1 102)), (2, .ref ((eG E).2.1 101)), (1, .ref ((eG E).2.1 100)), (0, .ref b)] [] σ τ o
  refine g_aload_n C dL_law_1253 rfl rfl ?_
  refine g_aload_n C dL_law_1254 rfl rfl ?_
  refine g_iload C dL_law_1255 rfl ?_
  refine g_iconst (v := 1) C dL_law_1257 (by decide) ?_
  refine g_iadd C dL_law_1258 ?_
  refine g_sld C X (3 * j + 1) dL_law_1259 (nI_1 _) (by omega) hL e1 ?_
  refine g_aload_n C dL_law_1260 rfl rfl ?_
  refine g_callLE (na := 3) C hN dL_law_1261 (h_isJoined hl (eG E) σ τ o nw nl lm p I hp) gL_law_L_isJoined rfl rfl (by decide +kernel) rfl (Nat.le_of_ble_eq_true rfl) (by first | exact ⟨Nat.le_trans (by decide) hF, Nat.le_trans (by decide) hLo⟩) (by omega) ?_
  refine g_istore C [(5, _), (4, _), (3, _), (2, _), (1, _), (0, _)] dL_law_1264 (by decide) rfl ?_
  refine g_aload_n C dL_law_1266 rfl rfl ?_
  refine g_aload_n C dL_law_1267 rfl rfl ?_
  refine g_iload C dL_law_1268 rfl ?_
  refine g_iconst (v := 1) C dL_law_1270 (by decide) ?_
  refine g_iadd C dL_law_1271 ?_
  refine g_sld C X (3 * j + 1) dL_law_1272 (nI_1 _) (by omega) hL e1 ?_
  refine g_callVEi (Cl := RX1) (T := TX1) (N := 16) (ci := 1) (q0 := 12) (na := 1) C dL_law_1273 (m_isJoined hl (eG E) _ _ _ nw nl lm p (RR_IM R) hp) gL_law_X1_isJoined rfl rfl (by decide +kernel) rfl rfl rfl (Nat.le_of_ble_eq_true rfl) (by first | exact ⟨Nat.le_trans (by decide) hF, Nat.le_trans (by decide) hLo⟩) (by omega) ?_
  refine g_istore C [(6, _), (5, _), (4, _), (3, _), (2, _), (1, _), (0, _)] dL_law_1276 (by decide) rfl ?_
  refine g_aload_n C dL_law_1278 rfl rfl ?_
  refine g_callVEi (Cl := RX1) (T := TX1) (N := 16) (ci := 1) (q0 := 12) (na := 0) C dL_law_1279 (m_thrown hl (eG E) _ _ _) gL_law_X1_thrown rfl rfl (by decide +kernel) rfl rfl rfl (Nat.le_of_ble_eq_true rfl) (by first | exact ⟨Nat.le_trans (by decide) hF, Nat.le_trans (by decide) hLo⟩) (by omega) ?_
  refine g_topi (show _ = (0 : Int32) from rfl) ?_
  refine g_iload C dL_law_1282 rfl ?_
  refine g_icmp_eq (tgt := 1289) C dL_law_1284 (by decide) (fun c_1284 => ?_) (fun c_1284 => absurd rfl c_1284)
  refine g_iload C dL_law_1289 rfl ?_
  refine g_if_ne (tgt := 1313) C dL_law_1291 (by decide) (fun c_1291 => absurd rfl c_1291) (fun c_1291 => ?_)
  refine g_aload_n C dL_law_1294 rfl rfl ?_
  refine g_iconst (v := 0) C dL_law_1295 (by decide) ?_
  refine g_lald C dL_law_1296 ?_
  refine g_iload C dL_law_1297 rfl ?_
  have heq : τ 8 p = τ 32 p := by rw [t5]
  refine g_if_eq (tgt := 1306) C dL_law_1299 (by decide) (fun c_1299 => ?_) (fun c_1299 => ?_)
  · refine g_lconst (v := 0) C dL_law_1306 (by decide) ?_
    refine g_lcmpE C ((congrArg lb heq).trans (if_pos c_1299)) dL_law_1307 ?_
    refine g_if_eq (tgt := 1313) C dL_law_1308 (by decide) (fun c_1308 => ?_) (fun c_1308 => absurd rfl c_1308)
    refine g_goto (tgt := 1650) C dL_law_1313 (by decide) ?_
    refine g_wide (k + 1) (n + 10) (by omega) (by omega) ?_
    refine g_lv [2, 3, 4, 5, 6] [(4, .int (nI (3 * j))), (3, .ref ((eG E).2.1 102)), (2, .ref ((eG E).2.1 101)), (1, .ref ((eG E).2.1 100)), (0, .ref b)] rfl ?_
    exact kk _ _ _ _ _ _ (RR_20 R 0)
  · refine g_lconst (v := 1) C dL_law_1302 (by decide) ?_
    refine g_goto (tgt := 1307) C dL_law_1303 (by decide) ?_
    refine g_lcmpE C ((congrArg lb heq).trans (if_neg c_1299)) dL_law_1307 ?_
    refine g_if_eq (tgt := 1313) C dL_law_1308 (by decide) (fun c_1308 => ?_) (fun c_1308 => absurd rfl c_1308)
    refine g_goto (tgt := 1650) C dL_law_1313 (by decide) ?_
    refine g_wide (k + 1) (n + 10) (by omega) (by omega) ?_
    refine g_lv [2, 3, 4, 5, 6] [(4, .int (nI (3 * j))), (3, .ref ((eG E).2.1 102)), (2, .ref ((eG E).2.1 101)), (1, .ref ((eG E).2.1 100)), (0, .ref b)] rfl ?_
    exact kk _ _ _ _ _ _ (RR_20 R 0)
set_option maxHeartbeats 4000000 in
set_option maxRecDepth 100000 in
theorem lc_isJoinedX {E : gE} {k n b L j : Nat} {xs : Nat → Int32} {σ : gS} {τ : gT} {o : gO} {nw nl lm : Nat} {w : Int32} (A : gW E k n b L j xs) (R : RR σ τ nw nl lm) (hw : w < 0 ∨ ¬ w < σ 9) (e1 : xs (3 * j + 1) = w) (kk : gK0 E k n b j) : G E k n 1253 (LV E b j) [] σ τ o := by
  obtain ⟨C, X, hN, hj, hL, hF, hLo, hk, hn⟩ := A
  have hl : (eL E).stackTraces = false := C.2.2.2.2.2.2.2.2.2
  have hIM : IM σ τ nw nl lm := RR_IM R
  have hnw := Iv_nw R.1
  have hnl := Iv_nl R.1
  have h3 : σ 3 = nI nw := Iv_h3 R.1
  have h9 : σ 9 = nI nl := Iv_h9 R.1
  obtain ⟨I, hb35, s1, s2, s3, s4, s5, s6, s7, t1, t2, t3, t4, t5, hz9⟩ := id R
  show G E k n 1253 [(4, .int (nI (3 * j))), (3, .ref ((eG E).2.1 102)), (2, .ref ((eG E).2.1 101)), (1, .ref ((eG E).2.1 100)), (0, .ref b)] [] σ τ o
  refine g_aload_n C dL_law_1253 rfl rfl ?_
  refine g_aload_n C dL_law_1254 rfl rfl ?_
  refine g_iload C dL_law_1255 rfl ?_
  refine g_iconst (v := 1) C dL_law_1257 (by decide) ?_
  refine g_iadd C dL_law_1258 ?_
  refine g_sld C X (3 * j + 1) dL_law_1259 (nI_1 _) (by omega) hL e1 ?_
  refine g_aload_n C dL_law_1260 rfl rfl ?_
  refine g_callLE (na := 3) C hN dL_law_1261 (h_isJoinedX hl (eG E) σ τ o w hw) gL_law_L_isJoined rfl rfl (by decide +kernel) rfl (Nat.le_of_ble_eq_true rfl) (by first | exact ⟨Nat.le_trans (by decide) hF, Nat.le_trans (by decide) hLo⟩) (by omega) ?_
  refine g_istore C [(5, _), (4, _), (3, _), (2, _), (1, _), (0, _)] dL_law_1264 (by decide) rfl ?_
  refine g_aload_n C dL_law_1266 rfl rfl ?_
  refine g_aload_n C dL_law_1267 rfl rfl ?_
  refine g_iload C dL_law_1268 rfl ?_
  refine g_iconst (v := 1) C dL_law_1270 (by decide) ?_
  refine g_iadd C dL_law_1271 ?_
  refine g_sld C X (3 * j + 1) dL_law_1272 (nI_1 _) (by omega) hL e1 ?_
  refine g_callVEi (Cl := RX1) (T := TX1) (N := 16) (ci := 1) (q0 := 12) (na := 1) C dL_law_1273 (m_isJoinedX hl (eG E) _ _ _ nw nl lm w (RR_IM R) (by rw [s5]; exact hw)) gL_law_X1_isJoined rfl rfl (by decide +kernel) rfl rfl rfl (Nat.le_of_ble_eq_true rfl) (by first | exact ⟨Nat.le_trans (by decide) hF, Nat.le_trans (by decide) hLo⟩) (by omega) ?_
  refine g_istore C [(6, _), (5, _), (4, _), (3, _), (2, _), (1, _), (0, _)] dL_law_1276 (by decide) rfl ?_
  refine g_aload_n C dL_law_1278 rfl rfl ?_
  refine g_callVEi (Cl := RX1) (T := TX1) (N := 16) (ci := 1) (q0 := 12) (na := 0) C dL_law_1279 (m_thrown hl (eG E) _ _ _) gL_law_X1_thrown rfl rfl (by decide +kernel) rfl rfl rfl (Nat.le_of_ble_eq_true rfl) (by first | exact ⟨Nat.le_trans (by decide) hF, Nat.le_trans (by decide) hLo⟩) (by omega) ?_
  refine g_topi (show _ = (1 : Int32) from rfl) ?_
  refine g_iload C dL_law_1282 rfl ?_
  refine g_icmp_eq (tgt := 1289) C dL_law_1284 (by decide) (fun c_1284 => ?_) (fun c_1284 => absurd rfl c_1284)
  refine g_iload C dL_law_1289 rfl ?_
  refine g_if_ne (tgt := 1313) C dL_law_1291 (by decide) (fun c_1291 => ?_) (fun c_1291 => absurd c_1291 (by decide))
  refine g_goto (tgt := 1650) C dL_law_1313 (by decide) ?_
  refine g_wide (k + 1) (n + 10) (by omega) (by omega) ?_
  refine g_lv [2, 3, 4, 5, 6] [(4, .int (nI (3 * j))), (3, .ref ((eG E).2.1 102)), (2, .ref ((eG E).2.1 101)), (1, .ref ((eG E).2.1 100)), (0, .ref b)] rfl ?_
  exact kk _ _ _ _ _ _ (RR_20 (RR_20 R 0) 1)
set_option maxHeartbeats 4000000 in
set_option maxRecDepth 100000 in
theorem lc_priceTo {E : gE} {k n b L j : Nat} {xs : Nat → Int32} {σ : gS} {τ : gT} {o : gO} {nw nl lm : Nat} {z : Int32} (A : gW E k n b L j xs) (R : RR σ τ nw nl lm) (hz : ¬ z < 0 ∧ z < 4) (e1 : xs (3 * j + 1) = z) (kk : gK0 E k n b j) : G E k n 1342 (LV E b j) [] σ τ o := by
  obtain ⟨C, X, hN, hj, hL, hF, hLo, hk, hn⟩ := A
  have hl : (eL E).stackTraces = false := C.2.2.2.2.2.2.2.2.2
  have hIM : IM σ τ nw nl lm := RR_IM R
  have hnw := Iv_nw R.1
  have hnl := Iv_nl R.1
  have h3 : σ 3 = nI nw := Iv_h3 R.1
  have h9 : σ 9 = nI nl := Iv_h9 R.1
  obtain ⟨I, hb35, s1, s2, s3, s4, s5, s6, s7, t1, t2, t3, t4, t5, hz9⟩ := id R
  show G E k n 1342 [(4, .int (nI (3 * j))), (3, .ref ((eG E).2.1 102)), (2, .ref ((eG E).2.1 101)), (1, .ref ((eG E).2.1 100)), (0, .ref b)] [] σ τ o
  refine g_aload_n C dL_law_1342 rfl rfl ?_
  refine g_aload_n C dL_law_1343 rfl rfl ?_
  refine g_iload C dL_law_1344 rfl ?_
  refine g_iconst (v := 1) C dL_law_1346 (by decide) ?_
  refine g_iadd C dL_law_1347 ?_
  refine g_sld C X (3 * j + 1) dL_law_1348 (nI_1 _) (by omega) hL e1 ?_
  refine g_aload_n C dL_law_1349 rfl rfl ?_
  refine g_callLE (na := 3) C hN dL_law_1350 (h_priceTo hl (eG E) σ τ o nw nl lm z I hz) gL_law_L_priceTo rfl rfl (by decide +kernel) rfl (Nat.le_of_ble_eq_true rfl) (by first | exact ⟨Nat.le_trans (by decide) hF, Nat.le_trans (by decide) hLo⟩) (by omega) ?_
  refine g_istore C [(5, _), (4, _), (3, _), (2, _), (1, _), (0, _)] dL_law_1353 (by decide) rfl ?_
  refine g_aload_n C dL_law_1355 rfl rfl ?_
  refine g_aload_n C dL_law_1356 rfl rfl ?_
  refine g_iload C dL_law_1357 rfl ?_
  refine g_iconst (v := 1) C dL_law_1359 (by decide) ?_
  refine g_iadd C dL_law_1360 ?_
  refine g_sld C X (3 * j + 1) dL_law_1361 (nI_1 _) (by omega) hL e1 ?_
  refine g_callVEi (Cl := RX1) (T := TX1) (N := 16) (ci := 1) (q0 := 12) (na := 1) C dL_law_1362 (m_priceTo hl (eG E) _ _ _ nw nl lm z (RR_IM R) hz) gL_law_X1_priceTo rfl rfl (by decide +kernel) rfl rfl rfl (Nat.le_of_ble_eq_true rfl) (by first | exact ⟨Nat.le_trans (by decide) hF, Nat.le_trans (by decide) hLo⟩) (by omega) ?_
  refine g_istore C [(6, _), (5, _), (4, _), (3, _), (2, _), (1, _), (0, _)] dL_law_1365 (by decide) rfl ?_
  refine g_aload_n C dL_law_1367 rfl rfl ?_
  refine g_callVEi (Cl := RX1) (T := TX1) (N := 16) (ci := 1) (q0 := 12) (na := 0) C dL_law_1368 (m_thrown hl (eG E) _ _ _) gL_law_X1_thrown rfl rfl (by decide +kernel) rfl rfl rfl (Nat.le_of_ble_eq_true rfl) (by first | exact ⟨Nat.le_trans (by decide) hF, Nat.le_trans (by decide) hLo⟩) (by omega) ?_
  refine g_topi (show _ = (0 : Int32) from rfl) ?_
  refine g_iload C dL_law_1371 rfl ?_
  refine g_icmp_eq (tgt := 1378) C dL_law_1373 (by decide) (fun c_1373 => ?_) (fun c_1373 => absurd rfl c_1373)
  refine g_iload C dL_law_1378 rfl ?_
  refine g_if_ne (tgt := 1395) C dL_law_1380 (by decide) (fun c_1380 => absurd rfl c_1380) (fun c_1380 => ?_)
  refine g_aload_n C dL_law_1383 rfl rfl ?_
  refine g_iconst (v := 0) C dL_law_1384 (by decide) ?_
  refine g_lald C dL_law_1385 ?_
  refine g_iload C dL_law_1386 rfl ?_
  refine g_i2l C dL_law_1388 ?_
  refine g_lcmpE C (congrArg Int32.toInt64 (show CTx σ τ nl * σ 6 * (z + 2) / 2 = CSm σ τ nl z from by unfold CSm; rw [RR_CT R, s4])) dL_law_1389 ?_
  refine g_if_eq (tgt := 1395) C dL_law_1390 (by decide) (fun c_1390 => ?_) (fun c_1390 => absurd rfl c_1390)
  refine g_goto (tgt := 1650) C dL_law_1395 (by decide) ?_
  refine g_wide (k + 1) (n + 10) (by omega) (by omega) ?_
  refine g_lv [2, 3, 4, 5, 6] [(4, .int (nI (3 * j))), (3, .ref ((eG E).2.1 102)), (2, .ref ((eG E).2.1 101)), (1, .ref ((eG E).2.1 100)), (0, .ref b)] rfl ?_
  exact kk _ _ _ _ _ _ (RR_20 R 0)
set_option maxHeartbeats 4000000 in
set_option maxRecDepth 100000 in
theorem lc_priceToX {E : gE} {k n b L j : Nat} {xs : Nat → Int32} {σ : gS} {τ : gT} {o : gO} {nw nl lm : Nat} {z : Int32} (A : gW E k n b L j xs) (R : RR σ τ nw nl lm) (hz : z < 0 ∨ ¬ z < 4) (e1 : xs (3 * j + 1) = z) (kk : gK0 E k n b j) : G E k n 1342 (LV E b j) [] σ τ o := by
  obtain ⟨C, X, hN, hj, hL, hF, hLo, hk, hn⟩ := A
  have hl : (eL E).stackTraces = false := C.2.2.2.2.2.2.2.2.2
  have hIM : IM σ τ nw nl lm := RR_IM R
  have hnw := Iv_nw R.1
  have hnl := Iv_nl R.1
  have h3 : σ 3 = nI nw := Iv_h3 R.1
  have h9 : σ 9 = nI nl := Iv_h9 R.1
  obtain ⟨I, hb35, s1, s2, s3, s4, s5, s6, s7, t1, t2, t3, t4, t5, hz9⟩ := id R
  show G E k n 1342 [(4, .int (nI (3 * j))), (3, .ref ((eG E).2.1 102)), (2, .ref ((eG E).2.1 101)), (1, .ref ((eG E).2.1 100)), (0, .ref b)] [] σ τ o
  refine g_aload_n C dL_law_1342 rfl rfl ?_
  refine g_aload_n C dL_law_1343 rfl rfl ?_
  refine g_iload C dL_law_1344 rfl ?_
  refine g_iconst (v := 1) C dL_law_1346 (by decide) ?_
  refine g_iadd C dL_law_1347 ?_
  refine g_sld C X (3 * j + 1) dL_law_1348 (nI_1 _) (by omega) hL e1 ?_
  refine g_aload_n C dL_law_1349 rfl rfl ?_
  refine g_callLE (na := 3) C hN dL_law_1350 (h_priceToX hl (eG E) σ τ o z hz) gL_law_L_priceTo rfl rfl (by decide +kernel) rfl (Nat.le_of_ble_eq_true rfl) (by first | exact ⟨Nat.le_trans (by decide) hF, Nat.le_trans (by decide) hLo⟩) (by omega) ?_
  refine g_istore C [(5, _), (4, _), (3, _), (2, _), (1, _), (0, _)] dL_law_1353 (by decide) rfl ?_
  refine g_aload_n C dL_law_1355 rfl rfl ?_
  refine g_aload_n C dL_law_1356 rfl rfl ?_
  refine g_iload C dL_law_1357 rfl ?_
  refine g_iconst (v := 1) C dL_law_1359 (by decide) ?_
  refine g_iadd C dL_law_1360 ?_
  refine g_sld C X (3 * j + 1) dL_law_1361 (nI_1 _) (by omega) hL e1 ?_
  refine g_callVEi (Cl := RX1) (T := TX1) (N := 16) (ci := 1) (q0 := 12) (na := 1) C dL_law_1362 (m_priceToX hl (eG E) _ _ _ z hz) gL_law_X1_priceTo rfl rfl (by decide +kernel) rfl rfl rfl (Nat.le_of_ble_eq_true rfl) (by first | exact ⟨Nat.le_trans (by decide) hF, Nat.le_trans (by decide) hLo⟩) (by omega) ?_
  refine g_istore C [(6, _), (5, _), (4, _), (3, _), (2, _), (1, _), (0, _)] dL_law_1365 (by decide) rfl ?_
  refine g_aload_n C dL_law_1367 rfl rfl ?_
  refine g_callVEi (Cl := RX1) (T := TX1) (N := 16) (ci := 1) (q0 := 12) (na := 0) C dL_law_1368 (m_thrown hl (eG E) _ _ _) gL_law_X1_thrown rfl rfl (by decide +kernel) rfl rfl rfl (Nat.le_of_ble_eq_true rfl) (by first | exact ⟨Nat.le_trans (by decide) hF, Nat.le_trans (by decide) hLo⟩) (by omega) ?_
  refine g_topi (show _ = (1 : Int32) from rfl) ?_
  refine g_iload C dL_law_1371 rfl ?_
  refine g_icmp_eq (tgt := 1378) C dL_law_1373 (by decide) (fun c_1373 => ?_) (fun c_1373 => absurd rfl c_1373)
  refine g_iload C dL_law_1378 rfl ?_
  refine g_if_ne (tgt := 1395) C dL_law_1380 (by decide) (fun c_1380 => ?_) (fun c_1380 => absurd c_1380 (by decide))
  refine g_goto (tgt := 1650) C dL_law_1395 (by decide) ?_
  refine g_wide (k + 1) (n + 10) (by omega) (by omega) ?_
  refine g_lv [2, 3, 4, 5, 6] [(4, .int (nI (3 * j))), (3, .ref ((eG E).2.1 102)), (2, .ref ((eG E).2.1 101)), (1, .ref ((eG E).2.1 100)), (0, .ref b)] rfl ?_
  exact kk _ _ _ _ _ _ (RR_20 (RR_20 R 0) 1)
set_option maxHeartbeats 4000000 in
set_option maxRecDepth 100000 in
theorem lc_cheapestWordAt {E : gE} {k n b L j : Nat} {xs : Nat → Int32} {σ : gS} {τ : gT} {o : gO} {nw nl lm : Nat} {p : Nat} (A : gW E k n b L j xs) (R : RR σ τ nw nl lm) (hp : p < nl) (e1 : xs (3 * j + 1) = nI p) (kk : gK0 E k n b j) : G E k n 1437 (LV E b j) [] σ τ o := by
  obtain ⟨C, X, hN, hj, hL, hF, hLo, hk, hn⟩ := A
  have hl : (eL E).stackTraces = false := C.2.2.2.2.2.2.2.2.2
  have hIM : IM σ τ nw nl lm := RR_IM R
  have hnw := Iv_nw R.1
  have hnl := Iv_nl R.1
  have h3 : σ 3 = nI nw := Iv_h3 R.1
  have h9 : σ 9 = nI nl := Iv_h9 R.1
  obtain ⟨I, hb35, s1, s2, s3, s4, s5, s6, s7, t1, t2, t3, t4, t5, hz9⟩ := id R
  show G E k n 1437 [(4, .int (nI (3 * j))), (3, .ref ((eG E).2.1 102)), (2, .ref ((eG E).2.1 101)), (1, .ref ((eG E).2.1 100)), (0, .ref b)] [] σ τ o
  refine g_aload_n C dL_law_1437 rfl rfl ?_
  refine g_aload_n C dL_law_1438 rfl rfl ?_
  refine g_iload C dL_law_1439 rfl ?_
  refine g_iconst (v := 1) C dL_law_1441 (by decide) ?_
  refine g_iadd C dL_law_1442 ?_
  refine g_sld C X (3 * j + 1) dL_law_1443 (nI_1 _) (by omega) hL e1 ?_
  refine g_aload_n C dL_law_1444 rfl rfl ?_
  refine g_callLi (na := 3) C hN dL_law_1445 (h_cheapestWordAt hl (eG E) σ τ o nw nl lm p I hp) gL_law_L_cheapestWordAt rfl rfl (by decide +kernel) rfl (Nat.le_of_ble_eq_true rfl) (by first | exact ⟨Nat.le_trans (by decide) hF, Nat.le_trans (by decide) hLo⟩) (by omega) (fun r1 σ1 τ1 o1 hc => ?_)
  obtain ⟨er1, es1, eo1, hc⟩ := hc
  have es1 := es1.symm
  have eo1 := eo1.symm
  subst er1
  subst es1
  subst eo1
  have hx := CH_xs hc
  have R1 := RR_xs R hx hc.2.2.2.1
  refine g_istore C [(5, _), (4, _), (3, _), (2, _), (1, _), (0, _)] dL_law_1448 (by decide) rfl ?_
  refine g_aload_n C dL_law_1450 rfl rfl ?_
  refine g_aload_n C dL_law_1451 rfl rfl ?_
  refine g_iload C dL_law_1452 rfl ?_
  refine g_iconst (v := 1) C dL_law_1454 (by decide) ?_
  refine g_iadd C dL_law_1455 ?_
  refine g_sld C X (3 * j + 1) dL_law_1456 (nI_1 _) (by omega) hL e1 ?_
  refine g_callVi (Cl := RX1) (T := TX1) (N := 16) (ci := 1) (q0 := 12) (na := 1) C dL_law_1457 (m_cheapestWordAt hl (eG E) _ _ _ nw nl lm p (RR_IM R1) hp) gL_law_X1_cheapestWordAt rfl rfl (by decide +kernel) rfl rfl rfl (Nat.le_of_ble_eq_true rfl) (by first | exact ⟨Nat.le_trans (by decide) hF, Nat.le_trans (by decide) hLo⟩) (by omega) noX_kx (fun r2 σ2 τ2 o2 hm => ?_)
  obtain ⟨er2, es2, eo2, hm⟩ := hm
  have es2 := es2.symm
  have eo2 := eo2.symm
  subst er2
  subst es2
  subst eo2
  refine g_istore C [(6, _), (5, _), (4, _), (3, _), (2, _), (1, _), (0, _)] dL_law_1460 (by decide) rfl ?_
  refine g_aload_n C dL_law_1462 rfl rfl ?_
  refine g_callVEi (Cl := RX1) (T := TX1) (N := 16) (ci := 1) (q0 := 12) (na := 0) C dL_law_1463 (m_thrown hl (eG E) _ _ _) gL_law_X1_thrown rfl rfl (by decide +kernel) rfl rfl rfl (Nat.le_of_ble_eq_true rfl) (by first | exact ⟨Nat.le_trans (by decide) hF, Nat.le_trans (by decide) hLo⟩) (by omega) ?_
  refine g_topi (show _ = (0 : Int32) from rfl) ?_
  refine g_iload C dL_law_1466 rfl ?_
  refine g_icmp_eq (tgt := 1473) C dL_law_1468 (by decide) (fun c_1468 => ?_) (fun c_1468 => absurd rfl c_1468)
  refine g_iload C dL_law_1473 rfl ?_
  refine g_if_ne (tgt := 1490) C dL_law_1475 (by decide) (fun c_1475 => absurd rfl c_1475) (fun c_1475 => ?_)
  refine g_aload_n C dL_law_1478 rfl rfl ?_
  refine g_iconst (v := 0) C dL_law_1479 (by decide) ?_
  refine g_lald C dL_law_1480 ?_
  refine g_iload C dL_law_1481 rfl ?_
  refine g_i2l C dL_law_1483 ?_
  refine g_lcmpE C (congrArg Int32.toInt64 (show cwd (prx σ τ nw nl) (Sx σ τ nw nl) (Ax σ τ nw nl) (Bx σ τ nw nl) p = CWm σ τ1 nw nl p from by rw [(XS_CW hx).2, RR_CW R])) dL_law_1484 ?_
  refine g_if_eq (tgt := 1490) C dL_law_1485 (by decide) (fun c_1485 => ?_) (fun c_1485 => absurd rfl c_1485)
  refine g_goto (tgt := 1650) C dL_law_1490 (by decide) ?_
  refine g_wide (k + 1) (n + 10) (by omega) (by omega) ?_
  refine g_lv [2, 3, 4, 5, 6] [(4, .int (nI (3 * j))), (3, .ref ((eG E).2.1 102)), (2, .ref ((eG E).2.1 101)), (1, .ref ((eG E).2.1 100)), (0, .ref b)] rfl ?_
  exact kk _ _ _ _ _ _ (RR_20 (RR_ms R1 hm.1 hm.2) 0)
set_option maxHeartbeats 4000000 in
set_option maxRecDepth 100000 in
theorem lc_cheapestWordAtX {E : gE} {k n b L j : Nat} {xs : Nat → Int32} {σ : gS} {τ : gT} {o : gO} {nw nl lm : Nat} {w : Int32} (A : gW E k n b L j xs) (R : RR σ τ nw nl lm) (hw : w < 0 ∨ ¬ w < σ 9) (e1 : xs (3 * j + 1) = w) (kk : gK0 E k n b j) : G E k n 1437 (LV E b j) [] σ τ o := by
  obtain ⟨C, X, hN, hj, hL, hF, hLo, hk, hn⟩ := A
  have hl : (eL E).stackTraces = false := C.2.2.2.2.2.2.2.2.2
  have hIM : IM σ τ nw nl lm := RR_IM R
  have hnw := Iv_nw R.1
  have hnl := Iv_nl R.1
  have h3 : σ 3 = nI nw := Iv_h3 R.1
  have h9 : σ 9 = nI nl := Iv_h9 R.1
  obtain ⟨I, hb35, s1, s2, s3, s4, s5, s6, s7, t1, t2, t3, t4, t5, hz9⟩ := id R
  show G E k n 1437 [(4, .int (nI (3 * j))), (3, .ref ((eG E).2.1 102)), (2, .ref ((eG E).2.1 101)), (1, .ref ((eG E).2.1 100)), (0, .ref b)] [] σ τ o
  refine g_aload_n C dL_law_1437 rfl rfl ?_
  refine g_aload_n C dL_law_1438 rfl rfl ?_
  refine g_iload C dL_law_1439 rfl ?_
  refine g_iconst (v := 1) C dL_law_1441 (by decide) ?_
  refine g_iadd C dL_law_1442 ?_
  refine g_sld C X (3 * j + 1) dL_law_1443 (nI_1 _) (by omega) hL e1 ?_
  refine g_aload_n C dL_law_1444 rfl rfl ?_
  refine g_callLE (na := 3) C hN dL_law_1445 (h_cheapestWordAtX hl (eG E) σ τ o w hw) gL_law_L_cheapestWordAt rfl rfl (by decide +kernel) rfl (Nat.le_of_ble_eq_true rfl) (by first | exact ⟨Nat.le_trans (by decide) hF, Nat.le_trans (by decide) hLo⟩) (by omega) ?_
  refine g_istore C [(5, _), (4, _), (3, _), (2, _), (1, _), (0, _)] dL_law_1448 (by decide) rfl ?_
  refine g_aload_n C dL_law_1450 rfl rfl ?_
  refine g_aload_n C dL_law_1451 rfl rfl ?_
  refine g_iload C dL_law_1452 rfl ?_
  refine g_iconst (v := 1) C dL_law_1454 (by decide) ?_
  refine g_iadd C dL_law_1455 ?_
  refine g_sld C X (3 * j + 1) dL_law_1456 (nI_1 _) (by omega) hL e1 ?_
  refine g_callVEi (Cl := RX1) (T := TX1) (N := 16) (ci := 1) (q0 := 12) (na := 1) C dL_law_1457 (m_cheapestWordAtX hl (eG E) _ _ _ nw nl lm w (RR_IM R) (by rw [s5]; exact hw)) gL_law_X1_cheapestWordAt rfl rfl (by decide +kernel) rfl rfl rfl (Nat.le_of_ble_eq_true rfl) (by first | exact ⟨Nat.le_trans (by decide) hF, Nat.le_trans (by decide) hLo⟩) (by omega) ?_
  refine g_istore C [(6, _), (5, _), (4, _), (3, _), (2, _), (1, _), (0, _)] dL_law_1460 (by decide) rfl ?_
  refine g_aload_n C dL_law_1462 rfl rfl ?_
  refine g_callVEi (Cl := RX1) (T := TX1) (N := 16) (ci := 1) (q0 := 12) (na := 0) C dL_law_1463 (m_thrown hl (eG E) _ _ _) gL_law_X1_thrown rfl rfl (by decide +kernel) rfl rfl rfl (Nat.le_of_ble_eq_true rfl) (by first | exact ⟨Nat.le_trans (by decide) hF, Nat.le_trans (by decide) hLo⟩) (by omega) ?_
  refine g_topi (show _ = (1 : Int32) from rfl) ?_
  refine g_iload C dL_law_1466 rfl ?_
  refine g_icmp_eq (tgt := 1473) C dL_law_1468 (by decide) (fun c_1468 => ?_) (fun c_1468 => absurd rfl c_1468)
  refine g_iload C dL_law_1473 rfl ?_
  refine g_if_ne (tgt := 1490) C dL_law_1475 (by decide) (fun c_1475 => ?_) (fun c_1475 => absurd c_1475 (by decide))
  refine g_goto (tgt := 1650) C dL_law_1490 (by decide) ?_
  refine g_wide (k + 1) (n + 10) (by omega) (by omega) ?_
  refine g_lv [2, 3, 4, 5, 6] [(4, .int (nI (3 * j))), (3, .ref ((eG E).2.1 102)), (2, .ref ((eG E).2.1 101)), (1, .ref ((eG E).2.1 100)), (0, .ref b)] rfl ?_
  exact kk _ _ _ _ _ _ (RR_20 (RR_20 R 0) 1)
set_option maxHeartbeats 4000000 in
set_option maxRecDepth 100000 in
theorem lc_isJoinedInCheapest {E : gE} {k n b L j : Nat} {xs : Nat → Int32} {σ : gS} {τ : gT} {o : gO} {nw nl lm : Nat} {p : Nat} (A : gW E k n b L j xs) (R : RR σ τ nw nl lm) (hp : p < nl) (e1 : xs (3 * j + 1) = nI p) (kk : gK0 E k n b j) : G E k n 1493 (LV E b j) [] σ τ o := by
  obtain ⟨C, X, hN, hj, hL, hF, hLo, hk, hn⟩ := A
  have hl : (eL E).stackTraces = false := C.2.2.2.2.2.2.2.2.2
  have hIM : IM σ τ nw nl lm := RR_IM R
  have hnw := Iv_nw R.1
  have hnl := Iv_nl R.1
  have h3 : σ 3 = nI nw := Iv_h3 R.1
  have h9 : σ 9 = nI nl := Iv_h9 R.1
  obtain ⟨I, hb35, s1, s2, s3, s4, s5, s6, s7, t1, t2, t3, t4, t5, hz9⟩ := id R
  show G E k n 1493 [(4, .int (nI (3 * j))), (3, .ref ((eG E).2.1 102)), (2, .ref ((eG E).2.1 101)), (1, .ref ((eG E).2.1 100)), (0, .ref b)] [] σ τ o
  refine g_aload_n C dL_law_1493 rfl rfl ?_
  refine g_aload_n C dL_law_1494 rfl rfl ?_
  refine g_iload C dL_law_1495 rfl ?_
  refine g_iconst (v := 1) C dL_law_1497 (by decide) ?_
  refine g_iadd C dL_law_1498 ?_
  refine g_sld C X (3 * j + 1) dL_law_1499 (nI_1 _) (by omega) hL e1 ?_
  refine g_aload_n C dL_law_1500 rfl rfl ?_
  refine g_callLi (na := 3) C hN dL_law_1501 (h_isJoinedInCheapest hl (eG E) σ τ o nw nl lm p I hp) gL_law_L_isJoinedInCheapest rfl rfl (by decide +kernel) rfl (Nat.le_of_ble_eq_true rfl) (by first | exact ⟨Nat.le_trans (by decide) hF, Nat.le_trans (by decide) hLo⟩) (by omega) (fun r1 σ1 τ1 o1 hc => ?_)
  obtain ⟨er1, es1, eo1, hc⟩ := hc
  have es1 := es1.symm
  have eo1 := eo1.symm
  subst er1
  subst es1
  subst eo1
  have hx := CH_xs hc
  have R1 := RR_xs R hx hc.2.2.2.1
  refine g_istore C [(5, _), (4, _), (3, _), (2, _), (1, _), (0, _)] dL_law_1504 (by decide) rfl ?_
  refine g_aload_n C dL_law_1506 rfl rfl ?_
  refine g_aload_n C dL_law_1507 rfl rfl ?_
  refine g_iload C dL_law_1508 rfl ?_
  refine g_iconst (v := 1) C dL_law_1510 (by decide) ?_
  refine g_iadd C dL_law_1511 ?_
  refine g_sld C X (3 * j + 1) dL_law_1512 (nI_1 _) (by omega) hL e1 ?_
  refine g_callVi (Cl := RX1) (T := TX1) (N := 16) (ci := 1) (q0 := 12) (na := 1) C dL_law_1513 (m_isJoinedInCheapest hl (eG E) _ _ _ nw nl lm p (RR_IM R1) hp) gL_law_X1_isJoinedInCheapest rfl rfl (by decide +kernel) rfl rfl rfl (Nat.le_of_ble_eq_true rfl) (by first | exact ⟨Nat.le_trans (by decide) hF, Nat.le_trans (by decide) hLo⟩) (by omega) noX_kx (fun r2 σ2 τ2 o2 hm => ?_)
  obtain ⟨er2, es2, eo2, hm⟩ := hm
  have es2 := es2.symm
  have eo2 := eo2.symm
  subst er2
  subst es2
  subst eo2
  refine g_istore C [(6, _), (5, _), (4, _), (3, _), (2, _), (1, _), (0, _)] dL_law_1516 (by decide) rfl ?_
  refine g_aload_n C dL_law_1518 rfl rfl ?_
  refine g_callVEi (Cl := RX1) (T := TX1) (N := 16) (ci := 1) (q0 := 12) (na := 0) C dL_law_1519 (m_thrown hl (eG E) _ _ _) gL_law_X1_thrown rfl rfl (by decide +kernel) rfl rfl rfl (Nat.le_of_ble_eq_true rfl) (by first | exact ⟨Nat.le_trans (by decide) hF, Nat.le_trans (by decide) hLo⟩) (by omega) ?_
  refine g_topi (show _ = (0 : Int32) from rfl) ?_
  refine g_iload C dL_law_1522 rfl ?_
  refine g_icmp_eq (tgt := 1529) C dL_law_1524 (by decide) (fun c_1524 => ?_) (fun c_1524 => absurd rfl c_1524)
  refine g_iload C dL_law_1529 rfl ?_
  refine g_if_ne (tgt := 1553) C dL_law_1531 (by decide) (fun c_1531 => absurd rfl c_1531) (fun c_1531 => ?_)
  refine g_aload_n C dL_law_1534 rfl rfl ?_
  refine g_iconst (v := 0) C dL_law_1535 (by decide) ?_
  refine g_lald C dL_law_1536 ?_
  refine g_iload C dL_law_1537 rfl ?_
  have heq : cjd (prx σ τ nw nl) p = cjd (prm σ τ1 nw nl) p := by rw [(XS_CW hx).1, RR_pr R]
  refine g_if_eq (tgt := 1546) C dL_law_1539 (by decide) (fun c_1539 => ?_) (fun c_1539 => ?_)
  · refine g_lconst (v := 0) C dL_law_1546 (by decide) ?_
    refine g_lcmpE C ((congrArg lb heq).trans (if_pos c_1539)) dL_law_1547 ?_
    refine g_if_eq (tgt := 1553) C dL_law_1548 (by decide) (fun c_1548 => ?_) (fun c_1548 => absurd rfl c_1548)
    refine g_goto (tgt := 1650) C dL_law_1553 (by decide) ?_
    refine g_wide (k + 1) (n + 10) (by omega) (by omega) ?_
    refine g_lv [2, 3, 4, 5, 6] [(4, .int (nI (3 * j))), (3, .ref ((eG E).2.1 102)), (2, .ref ((eG E).2.1 101)), (1, .ref ((eG E).2.1 100)), (0, .ref b)] rfl ?_
    exact kk _ _ _ _ _ _ (RR_20 (RR_ms R1 hm.1 hm.2) 0)
  · refine g_lconst (v := 1) C dL_law_1542 (by decide) ?_
    refine g_goto (tgt := 1547) C dL_law_1543 (by decide) ?_
    refine g_lcmpE C ((congrArg lb heq).trans (if_neg c_1539)) dL_law_1547 ?_
    refine g_if_eq (tgt := 1553) C dL_law_1548 (by decide) (fun c_1548 => ?_) (fun c_1548 => absurd rfl c_1548)
    refine g_goto (tgt := 1650) C dL_law_1553 (by decide) ?_
    refine g_wide (k + 1) (n + 10) (by omega) (by omega) ?_
    refine g_lv [2, 3, 4, 5, 6] [(4, .int (nI (3 * j))), (3, .ref ((eG E).2.1 102)), (2, .ref ((eG E).2.1 101)), (1, .ref ((eG E).2.1 100)), (0, .ref b)] rfl ?_
    exact kk _ _ _ _ _ _ (RR_20 (RR_ms R1 hm.1 hm.2) 0)
set_option maxHeartbeats 4000000 in
set_option maxRecDepth 100000 in
theorem lc_isJoinedInCheapestX {E : gE} {k n b L j : Nat} {xs : Nat → Int32} {σ : gS} {τ : gT} {o : gO} {nw nl lm : Nat} {w : Int32} (A : gW E k n b L j xs) (R : RR σ τ nw nl lm) (hw : w < 0 ∨ ¬ w < σ 9) (e1 : xs (3 * j + 1) = w) (kk : gK0 E k n b j) : G E k n 1493 (LV E b j) [] σ τ o := by
  obtain ⟨C, X, hN, hj, hL, hF, hLo, hk, hn⟩ := A
  have hl : (eL E).stackTraces = false := C.2.2.2.2.2.2.2.2.2
  have hIM : IM σ τ nw nl lm := RR_IM R
  have hnw := Iv_nw R.1
  have hnl := Iv_nl R.1
  have h3 : σ 3 = nI nw := Iv_h3 R.1
  have h9 : σ 9 = nI nl := Iv_h9 R.1
  obtain ⟨I, hb35, s1, s2, s3, s4, s5, s6, s7, t1, t2, t3, t4, t5, hz9⟩ := id R
  show G E k n 1493 [(4, .int (nI (3 * j))), (3, .ref ((eG E).2.1 102)), (2, .ref ((eG E).2.1 101)), (1, .ref ((eG E).2.1 100)), (0, .ref b)] [] σ τ o
  refine g_aload_n C dL_law_1493 rfl rfl ?_
  refine g_aload_n C dL_law_1494 rfl rfl ?_
  refine g_iload C dL_law_1495 rfl ?_
  refine g_iconst (v := 1) C dL_law_1497 (by decide) ?_
  refine g_iadd C dL_law_1498 ?_
  refine g_sld C X (3 * j + 1) dL_law_1499 (nI_1 _) (by omega) hL e1 ?_
  refine g_aload_n C dL_law_1500 rfl rfl ?_
  refine g_callLE (na := 3) C hN dL_law_1501 (h_isJoinedInCheapestX hl (eG E) σ τ o w hw) gL_law_L_isJoinedInCheapest rfl rfl (by decide +kernel) rfl (Nat.le_of_ble_eq_true rfl) (by first | exact ⟨Nat.le_trans (by decide) hF, Nat.le_trans (by decide) hLo⟩) (by omega) ?_
  refine g_istore C [(5, _), (4, _), (3, _), (2, _), (1, _), (0, _)] dL_law_1504 (by decide) rfl ?_
  refine g_aload_n C dL_law_1506 rfl rfl ?_
  refine g_aload_n C dL_law_1507 rfl rfl ?_
  refine g_iload C dL_law_1508 rfl ?_
  refine g_iconst (v := 1) C dL_law_1510 (by decide) ?_
  refine g_iadd C dL_law_1511 ?_
  refine g_sld C X (3 * j + 1) dL_law_1512 (nI_1 _) (by omega) hL e1 ?_
  refine g_callVEi (Cl := RX1) (T := TX1) (N := 16) (ci := 1) (q0 := 12) (na := 1) C dL_law_1513 (m_isJoinedInCheapestX hl (eG E) _ _ _ nw nl lm w (RR_IM R) (by rw [s5]; exact hw)) gL_law_X1_isJoinedInCheapest rfl rfl (by decide +kernel) rfl rfl rfl (Nat.le_of_ble_eq_true rfl) (by first | exact ⟨Nat.le_trans (by decide) hF, Nat.le_trans (by decide) hLo⟩) (by omega) ?_
  refine g_istore C [(6, _), (5, _), (4, _), (3, _), (2, _), (1, _), (0, _)] dL_law_1516 (by decide) rfl ?_
  refine g_aload_n C dL_law_1518 rfl rfl ?_
  refine g_callVEi (Cl := RX1) (T := TX1) (N := 16) (ci := 1) (q0 := 12) (na := 0) C dL_law_1519 (m_thrown hl (eG E) _ _ _) gL_law_X1_thrown rfl rfl (by decide +kernel) rfl rfl rfl (Nat.le_of_ble_eq_true rfl) (by first | exact ⟨Nat.le_trans (by decide) hF, Nat.le_trans (by decide) hLo⟩) (by omega) ?_
  refine g_topi (show _ = (1 : Int32) from rfl) ?_
  refine g_iload C dL_law_1522 rfl ?_
  refine g_icmp_eq (tgt := 1529) C dL_law_1524 (by decide) (fun c_1524 => ?_) (fun c_1524 => absurd rfl c_1524)
  refine g_iload C dL_law_1529 rfl ?_
  refine g_if_ne (tgt := 1553) C dL_law_1531 (by decide) (fun c_1531 => ?_) (fun c_1531 => absurd c_1531 (by decide))
  refine g_goto (tgt := 1650) C dL_law_1553 (by decide) ?_
  refine g_wide (k + 1) (n + 10) (by omega) (by omega) ?_
  refine g_lv [2, 3, 4, 5, 6] [(4, .int (nI (3 * j))), (3, .ref ((eG E).2.1 102)), (2, .ref ((eG E).2.1 101)), (1, .ref ((eG E).2.1 100)), (0, .ref b)] rfl ?_
  exact kk _ _ _ _ _ _ (RR_20 (RR_20 R 0) 1)
