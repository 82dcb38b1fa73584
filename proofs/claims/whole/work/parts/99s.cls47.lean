/-! the law, call for call (2) -/
set_option maxHeartbeats 1000000 in
set_option maxRecDepth 20000 in
theorem arm_land {X : zX} {B : zB} {b L i : Nat} {xs : Nat → Int32} {M : zM} {N : zN} (o : zOk X B RL cL_law 4 61) (hB : znn B = 95) (hX : zScr X B b L xs) (hL : L ≤ 3072) (hi : i + 6 ≤ L) (h : zS M N) (kk : ∀ (M1 : zM) (N1 : zN), zS M1 N1 → zW X B (zg B M1 N1) 1489 [(3, .int (nI i)), (2, zref B 82), (1, zref B 0), (0, .ref b)] []) : zW X B (zg B M N) 858 [(3, .int (nI i)), (2, zref B 82), (1, zref B 0), (0, .ref b)] [] := by
  refine z_aload_n (j := 2) o dL_law_858 rfl ?_
  refine z_aload_n (j := 3) o dL_law_859 rfl ?_
  refine z_iload_n (j := 0) o dL_law_860 rfl ?_
  refine z_iconst (v := 1) o dL_law_861 (by decide) ?_
  refine z_iadd o dL_law_862 ?_
  refine zo_rw (y := nI (i + 1)) (zn_add (rfl) (rfl)) ?_
  refine z_scd (j := i + 1) o hX dL_law_863 (by omega) hL ?_
  refine z_aload_n (j := 3) o dL_law_864 rfl ?_
  refine z_iload_n (j := 0) o dL_law_865 rfl ?_
  refine z_iconst (v := 2) o dL_law_866 (by decide) ?_
  refine z_iadd o dL_law_867 ?_
  refine zo_rw (y := nI (i + 2)) (zn_add (rfl) (rfl)) ?_
  refine z_scd (j := i + 2) o hX dL_law_868 (by omega) hL ?_
  refine z_callVl (As := [.int (xs (i + 1)), .int (xs (i + 2))]) (n := 2) (st := []) o dL_law_869 (k_land hB M N M (xs (i + 1)) (xs (i + 2)) h.1 h.2.1) zc_L_100 (by decide) (i := 0) (by rw [hB]; exact zsh_lt rfl (by decide)) (zg_o rfl (by decide)) rfl rfl rfl (Nat.le_of_ble_eq_true rfl) (fun r1 g2 p3 => ?_)
  obtain ⟨M1, N1, rfl, e1, hr, hh⟩ := p3
  refine z_aload_n (j := 1) o dL_law_872 rfl ?_
  refine z_aload_n (j := 3) o dL_law_873 rfl ?_
  refine z_iload_n (j := 0) o dL_law_874 rfl ?_
  refine z_iconst (v := 1) o dL_law_875 (by decide) ?_
  refine z_iadd o dL_law_876 ?_
  refine zo_rw (y := nI (i + 1)) (zn_add (rfl) (rfl)) ?_
  refine z_scd (j := i + 1) o hX dL_law_877 (by omega) hL ?_
  refine z_aload_n (j := 3) o dL_law_878 rfl ?_
  refine z_iload_n (j := 0) o dL_law_879 rfl ?_
  refine z_iconst (v := 2) o dL_law_880 (by decide) ?_
  refine z_iadd o dL_law_881 ?_
  refine zo_rw (y := nI (i + 2)) (zn_add (rfl) (rfl)) ?_
  refine z_scd (j := i + 2) o hX dL_law_882 (by omega) hL ?_
  refine z_callVl (As := [.int (xs (i + 1)), .int (xs (i + 2))]) (n := 2) (st := [.long r1]) o dL_law_883 (c_X8_land hB M1 N1 (xs (i + 1)) (xs (i + 2)) (by rw [hh 83 (by decide)]; exact h.2.1)) zc_L_104 (by decide) (i := 82) (by rw [hB]; exact zsh_lt rfl (by decide)) (zg_o rfl (by decide)) rfl rfl rfl (Nat.le_of_ble_eq_true rfl) (fun r4 g5 p6 => ?_)
  obtain ⟨rfl, e2⟩ := p6
  refine z_lcmp o dL_law_886 ?_
  refine z_ifeq (tgt := 1489) o dL_law_887 (by decide) (fun c7 => ?_) (fun c7 => ?_)
  · exact kk _ _ (tk_land (xs (i + 1)) (xs (i + 2)) h hh hr zQ.rf)
  · exact absurd (by rw [show r1 = _ from e1.trans ((congrArg Prod.fst (ek_land hh (xs (i + 1)) (xs (i + 2)))).symm.trans e2.symm)]; exact cmp_self _) c7
set_option maxHeartbeats 1000000 in
set_option maxRecDepth 20000 in
theorem arm_then {X : zX} {B : zB} {b L i : Nat} {xs : Nat → Int32} {M : zM} {N : zN} (o : zOk X B RL cL_law 4 61) (hB : znn B = 95) (hX : zScr X B b L xs) (hL : L ≤ 3072) (hi : i + 6 ≤ L) (h : zS M N) (kk : ∀ (M1 : zM) (N1 : zN), zS M1 N1 → zW X B (zg B M1 N1) 1489 [(3, .int (nI i)), (2, zref B 82), (1, zref B 0), (0, .ref b)] []) : zW X B (zg B M N) 892 [(3, .int (nI i)), (2, zref B 82), (1, zref B 0), (0, .ref b)] [] := by
  refine z_aload_n (j := 2) o dL_law_892 rfl ?_
  refine z_aload_n (j := 3) o dL_law_893 rfl ?_
  refine z_iload_n (j := 0) o dL_law_894 rfl ?_
  refine z_iconst (v := 1) o dL_law_895 (by decide) ?_
  refine z_iadd o dL_law_896 ?_
  refine zo_rw (y := nI (i + 1)) (zn_add (rfl) (rfl)) ?_
  refine z_scd (j := i + 1) o hX dL_law_897 (by omega) hL ?_
  refine z_aload_n (j := 3) o dL_law_898 rfl ?_
  refine z_iload_n (j := 0) o dL_law_899 rfl ?_
  refine z_iconst (v := 2) o dL_law_900 (by decide) ?_
  refine z_iadd o dL_law_901 ?_
  refine zo_rw (y := nI (i + 2)) (zn_add (rfl) (rfl)) ?_
  refine z_scd (j := i + 2) o hX dL_law_902 (by omega) hL ?_
  refine z_aload_n (j := 3) o dL_law_903 rfl ?_
  refine z_iload_n (j := 0) o dL_law_904 rfl ?_
  refine z_iconst (v := 3) o dL_law_905 (by decide) ?_
  refine z_iadd o dL_law_906 ?_
  refine zo_rw (y := nI (i + 3)) (zn_add (rfl) (rfl)) ?_
  refine z_scd (j := i + 3) o hX dL_law_907 (by omega) hL ?_
  refine z_callVi (As := [.int (xs (i + 1)), .int (xs (i + 2)), .int (xs (i + 3))]) (n := 3) (st := []) o dL_law_908 (k_then hB M N M (xs (i + 1)) (xs (i + 2)) (xs (i + 3)) h.1 h.2.1) zc_L_105 (by decide) (i := 0) (by rw [hB]; exact zsh_lt rfl (by decide)) (zg_o rfl (by decide)) rfl rfl rfl (Nat.le_of_ble_eq_true rfl) (fun r1 g2 p3 => ?_)
  obtain ⟨M1, N1, rfl, e1, hr, hh⟩ := p3
  refine z_aload_n (j := 1) o dL_law_911 rfl ?_
  refine z_aload_n (j := 3) o dL_law_912 rfl ?_
  refine z_iload_n (j := 0) o dL_law_913 rfl ?_
  refine z_iconst (v := 1) o dL_law_914 (by decide) ?_
  refine z_iadd o dL_law_915 ?_
  refine zo_rw (y := nI (i + 1)) (zn_add (rfl) (rfl)) ?_
  refine z_scd (j := i + 1) o hX dL_law_916 (by omega) hL ?_
  refine z_aload_n (j := 3) o dL_law_917 rfl ?_
  refine z_iload_n (j := 0) o dL_law_918 rfl ?_
  refine z_iconst (v := 2) o dL_law_919 (by decide) ?_
  refine z_iadd o dL_law_920 ?_
  refine zo_rw (y := nI (i + 2)) (zn_add (rfl) (rfl)) ?_
  refine z_scd (j := i + 2) o hX dL_law_921 (by omega) hL ?_
  refine z_aload_n (j := 3) o dL_law_922 rfl ?_
  refine z_iload_n (j := 0) o dL_law_923 rfl ?_
  refine z_iconst (v := 3) o dL_law_924 (by decide) ?_
  refine z_iadd o dL_law_925 ?_
  refine zo_rw (y := nI (i + 3)) (zn_add (rfl) (rfl)) ?_
  refine z_scd (j := i + 3) o hX dL_law_926 (by omega) hL ?_
  refine z_callVi (As := [.int (xs (i + 1)), .int (xs (i + 2)), .int (xs (i + 3))]) (n := 3) (st := [.int r1]) o dL_law_927 (c_X8_then hB M1 N1 (xs (i + 1)) (xs (i + 2)) (xs (i + 3)) (by rw [hh 83 (by decide)]; exact h.2.1)) zc_L_108 (by decide) (i := 82) (by rw [hB]; exact zsh_lt rfl (by decide)) (zg_o rfl (by decide)) rfl rfl rfl (Nat.le_of_ble_eq_true rfl) (fun r4 g5 p6 => ?_)
  obtain ⟨M2, rfl, e2, hq⟩ := p6
  refine z_icmpeq (tgt := 1489) o dL_law_930 (by decide) (fun c7 => ?_) (fun c7 => ?_)
  · exact kk _ _ (tk_then (xs (i + 1)) (xs (i + 2)) (xs (i + 3)) h hh hr hq)
  · exact absurd (e1.trans ((congrArg Prod.fst (ek_then hh (xs (i + 1)) (xs (i + 2)) (xs (i + 3)))).symm.trans e2.symm)) c7
set_option maxHeartbeats 1000000 in
set_option maxRecDepth 20000 in
theorem arm_first {X : zX} {B : zB} {b L i : Nat} {xs : Nat → Int32} {M : zM} {N : zN} (o : zOk X B RL cL_law 4 61) (hB : znn B = 95) (hX : zScr X B b L xs) (hL : L ≤ 3072) (hi : i + 6 ≤ L) (h : zS M N) (kk : ∀ (M1 : zM) (N1 : zN), zS M1 N1 → zW X B (zg B M1 N1) 1489 [(3, .int (nI i)), (2, zref B 82), (1, zref B 0), (0, .ref b)] []) : zW X B (zg B M N) 935 [(3, .int (nI i)), (2, zref B 82), (1, zref B 0), (0, .ref b)] [] := by
  refine z_aload_n (j := 2) o dL_law_935 rfl ?_
  refine z_aload_n (j := 3) o dL_law_936 rfl ?_
  refine z_iload_n (j := 0) o dL_law_937 rfl ?_
  refine z_iconst (v := 1) o dL_law_938 (by decide) ?_
  refine z_iadd o dL_law_939 ?_
  refine zo_rw (y := nI (i + 1)) (zn_add (rfl) (rfl)) ?_
  refine z_scd (j := i + 1) o hX dL_law_940 (by omega) hL ?_
  refine z_aload_n (j := 3) o dL_law_941 rfl ?_
  refine z_iload_n (j := 0) o dL_law_942 rfl ?_
  refine z_iconst (v := 2) o dL_law_943 (by decide) ?_
  refine z_iadd o dL_law_944 ?_
  refine zo_rw (y := nI (i + 2)) (zn_add (rfl) (rfl)) ?_
  refine z_scd (j := i + 2) o hX dL_law_945 (by omega) hL ?_
  refine z_callVi (As := [.int (xs (i + 1)), .int (xs (i + 2))]) (n := 2) (st := []) o dL_law_946 (k_first hB M N M (xs (i + 1)) (xs (i + 2)) h.1 h.2.1) zc_L_109 (by decide) (i := 0) (by rw [hB]; exact zsh_lt rfl (by decide)) (zg_o rfl (by decide)) rfl rfl rfl (Nat.le_of_ble_eq_true rfl) (fun r1 g2 p3 => ?_)
  obtain ⟨M1, N1, rfl, e1, hr, hh⟩ := p3
  refine z_aload_n (j := 1) o dL_law_949 rfl ?_
  refine z_aload_n (j := 3) o dL_law_950 rfl ?_
  refine z_iload_n (j := 0) o dL_law_951 rfl ?_
  refine z_iconst (v := 1) o dL_law_952 (by decide) ?_
  refine z_iadd o dL_law_953 ?_
  refine zo_rw (y := nI (i + 1)) (zn_add (rfl) (rfl)) ?_
  refine z_scd (j := i + 1) o hX dL_law_954 (by omega) hL ?_
  refine z_aload_n (j := 3) o dL_law_955 rfl ?_
  refine z_iload_n (j := 0) o dL_law_956 rfl ?_
  refine z_iconst (v := 2) o dL_law_957 (by decide) ?_
  refine z_iadd o dL_law_958 ?_
  refine zo_rw (y := nI (i + 2)) (zn_add (rfl) (rfl)) ?_
  refine z_scd (j := i + 2) o hX dL_law_959 (by omega) hL ?_
  refine z_callVi (As := [.int (xs (i + 1)), .int (xs (i + 2))]) (n := 2) (st := [.int r1]) o dL_law_960 (c_X8_first hB M1 N1 (xs (i + 1)) (xs (i + 2)) (by rw [hh 83 (by decide)]; exact h.2.1)) zc_L_112 (by decide) (i := 82) (by rw [hB]; exact zsh_lt rfl (by decide)) (zg_o rfl (by decide)) rfl rfl rfl (Nat.le_of_ble_eq_true rfl) (fun r4 g5 p6 => ?_)
  obtain ⟨M2, rfl, e2, hq⟩ := p6
  refine z_icmpeq (tgt := 1489) o dL_law_963 (by decide) (fun c7 => ?_) (fun c7 => ?_)
  · exact kk _ _ (tk_first (xs (i + 1)) (xs (i + 2)) h hh hr hq)
  · exact absurd (e1.trans ((congrArg Prod.fst (ek_first hh (xs (i + 1)) (xs (i + 2)))).symm.trans e2.symm)) c7
set_option maxHeartbeats 1000000 in
set_option maxRecDepth 20000 in
theorem arm_salts {X : zX} {B : zB} {b L i : Nat} {xs : Nat → Int32} {M : zM} {N : zN} (o : zOk X B RL cL_law 4 61) (hB : znn B = 95) (hX : zScr X B b L xs) (hL : L ≤ 3072) (hi : i + 6 ≤ L) (h : zS M N) (kk : ∀ (M1 : zM) (N1 : zN), zS M1 N1 → zW X B (zg B M1 N1) 1489 [(3, .int (nI i)), (2, zref B 82), (1, zref B 0), (0, .ref b)] []) : zW X B (zg B M N) 968 [(3, .int (nI i)), (2, zref B 82), (1, zref B 0), (0, .ref b)] [] := by
  refine z_aload_n (j := 2) o dL_law_968 rfl ?_
  refine z_aload_n (j := 3) o dL_law_969 rfl ?_
  refine z_iload_n (j := 0) o dL_law_970 rfl ?_
  refine z_iconst (v := 1) o dL_law_971 (by decide) ?_
  refine z_iadd o dL_law_972 ?_
  refine zo_rw (y := nI (i + 1)) (zn_add (rfl) (rfl)) ?_
  refine z_scd (j := i + 1) o hX dL_law_973 (by omega) hL ?_
  refine z_aload_n (j := 3) o dL_law_974 rfl ?_
  refine z_iload_n (j := 0) o dL_law_975 rfl ?_
  refine z_iconst (v := 2) o dL_law_976 (by decide) ?_
  refine z_iadd o dL_law_977 ?_
  refine zo_rw (y := nI (i + 2)) (zn_add (rfl) (rfl)) ?_
  refine z_scd (j := i + 2) o hX dL_law_978 (by omega) hL ?_
  refine z_aload_n (j := 3) o dL_law_979 rfl ?_
  refine z_iload_n (j := 0) o dL_law_980 rfl ?_
  refine z_iconst (v := 3) o dL_law_981 (by decide) ?_
  refine z_iadd o dL_law_982 ?_
  refine zo_rw (y := nI (i + 3)) (zn_add (rfl) (rfl)) ?_
  refine z_scd (j := i + 3) o hX dL_law_983 (by omega) hL ?_
  refine z_aload_n (j := 3) o dL_law_984 rfl ?_
  refine z_iload_n (j := 0) o dL_law_985 rfl ?_
  refine z_iconst (v := 4) o dL_law_986 (by decide) ?_
  refine z_iadd o dL_law_987 ?_
  refine zo_rw (y := nI (i + 4)) (zn_add (rfl) (rfl)) ?_
  refine z_scd (j := i + 4) o hX dL_law_988 (by omega) hL ?_
  refine z_callVi (As := [.int (xs (i + 1)), .int (xs (i + 2)), .int (xs (i + 3)), .int (xs (i + 4))]) (n := 4) (st := []) o dL_law_989 (k_salts hB M N M (xs (i + 1)) (xs (i + 2)) (xs (i + 3)) (xs (i + 4)) h.1 h.2.1) zc_L_113 (by decide) (i := 0) (by rw [hB]; exact zsh_lt rfl (by decide)) (zg_o rfl (by decide)) rfl rfl rfl (Nat.le_of_ble_eq_true rfl) (fun r1 g2 p3 => ?_)
  obtain ⟨M1, N1, rfl, e1, hr, hh⟩ := p3
  refine z_aload_n (j := 1) o dL_law_992 rfl ?_
  refine z_aload_n (j := 3) o dL_law_993 rfl ?_
  refine z_iload_n (j := 0) o dL_law_994 rfl ?_
  refine z_iconst (v := 1) o dL_law_995 (by decide) ?_
  refine z_iadd o dL_law_996 ?_
  refine zo_rw (y := nI (i + 1)) (zn_add (rfl) (rfl)) ?_
  refine z_scd (j := i + 1) o hX dL_law_997 (by omega) hL ?_
  refine z_aload_n (j := 3) o dL_law_998 rfl ?_
  refine z_iload_n (j := 0) o dL_law_999 rfl ?_
  refine z_iconst (v := 2) o dL_law_1000 (by decide) ?_
  refine z_iadd o dL_law_1001 ?_
  refine zo_rw (y := nI (i + 2)) (zn_add (rfl) (rfl)) ?_
  refine z_scd (j := i + 2) o hX dL_law_1002 (by omega) hL ?_
  refine z_aload_n (j := 3) o dL_law_1003 rfl ?_
  refine z_iload_n (j := 0) o dL_law_1004 rfl ?_
  refine z_iconst (v := 3) o dL_law_1005 (by decide) ?_
  refine z_iadd o dL_law_1006 ?_
  refine zo_rw (y := nI (i + 3)) (zn_add (rfl) (rfl)) ?_
  refine z_scd (j := i + 3) o hX dL_law_1007 (by omega) hL ?_
  refine z_aload_n (j := 3) o dL_law_1008 rfl ?_
  refine z_iload_n (j := 0) o dL_law_1009 rfl ?_
  refine z_iconst (v := 4) o dL_law_1010 (by decide) ?_
  refine z_iadd o dL_law_1011 ?_
  refine zo_rw (y := nI (i + 4)) (zn_add (rfl) (rfl)) ?_
  refine z_scd (j := i + 4) o hX dL_law_1012 (by omega) hL ?_
  refine z_callVi (As := [.int (xs (i + 1)), .int (xs (i + 2)), .int (xs (i + 3)), .int (xs (i + 4))]) (n := 4) (st := [.int r1]) o dL_law_1013 (c_X8_salts hB M1 N1 (xs (i + 1)) (xs (i + 2)) (xs (i + 3)) (xs (i + 4)) (by rw [hh 83 (by decide)]; exact h.2.1)) zc_L_116 (by decide) (i := 82) (by rw [hB]; exact zsh_lt rfl (by decide)) (zg_o rfl (by decide)) rfl rfl rfl (Nat.le_of_ble_eq_true rfl) (fun r4 g5 p6 => ?_)
  obtain ⟨M2, rfl, e2, hq⟩ := p6
  refine z_icmpeq (tgt := 1489) o dL_law_1016 (by decide) (fun c7 => ?_) (fun c7 => ?_)
  · exact kk _ _ (tk_salts (xs (i + 1)) (xs (i + 2)) (xs (i + 3)) (xs (i + 4)) h hh hr hq)
  · exact absurd (e1.trans ((congrArg Prod.fst (ek_salts hh (xs (i + 1)) (xs (i + 2)) (xs (i + 3)) (xs (i + 4)))).symm.trans e2.symm)) c7
set_option maxHeartbeats 1000000 in
set_option maxRecDepth 20000 in
theorem arm_way {X : zX} {B : zB} {b L i : Nat} {xs : Nat → Int32} {M : zM} {N : zN} (o : zOk X B RL cL_law 4 61) (hB : znn B = 95) (hX : zScr X B b L xs) (hL : L ≤ 3072) (hi : i + 6 ≤ L) (h : zS M N) (kk : ∀ (M1 : zM) (N1 : zN), zS M1 N1 → zW X B (zg B M1 N1) 1489 [(3, .int (nI i)), (2, zref B 82), (1, zref B 0), (0, .ref b)] []) : zW X B (zg B M N) 1021 [(3, .int (nI i)), (2, zref B 82), (1, zref B 0), (0, .ref b)] [] := by
  refine z_aload_n (j := 2) o dL_law_1021 rfl ?_
  refine z_aload_n (j := 3) o dL_law_1022 rfl ?_
  refine z_iload_n (j := 0) o dL_law_1023 rfl ?_
  refine z_iconst (v := 1) o dL_law_1024 (by decide) ?_
  refine z_iadd o dL_law_1025 ?_
  refine zo_rw (y := nI (i + 1)) (zn_add (rfl) (rfl)) ?_
  refine z_scd (j := i + 1) o hX dL_law_1026 (by omega) hL ?_
  refine z_aload_n (j := 3) o dL_law_1027 rfl ?_
  refine z_iload_n (j := 0) o dL_law_1028 rfl ?_
  refine z_iconst (v := 2) o dL_law_1029 (by decide) ?_
  refine z_iadd o dL_law_1030 ?_
  refine zo_rw (y := nI (i + 2)) (zn_add (rfl) (rfl)) ?_
  refine z_scd (j := i + 2) o hX dL_law_1031 (by omega) hL ?_
  refine z_callVi (As := [.int (xs (i + 1)), .int (xs (i + 2))]) (n := 2) (st := []) o dL_law_1032 (k_way hB M N M (xs (i + 1)) (xs (i + 2)) h.1 h.2.1) zc_L_117 (by decide) (i := 0) (by rw [hB]; exact zsh_lt rfl (by decide)) (zg_o rfl (by decide)) rfl rfl rfl (Nat.le_of_ble_eq_true rfl) (fun r1 g2 p3 => ?_)
  obtain ⟨M1, N1, rfl, e1, hr, hh⟩ := p3
  refine z_aload_n (j := 1) o dL_law_1035 rfl ?_
  refine z_aload_n (j := 3) o dL_law_1036 rfl ?_
  refine z_iload_n (j := 0) o dL_law_1037 rfl ?_
  refine z_iconst (v := 1) o dL_law_1038 (by decide) ?_
  refine z_iadd o dL_law_1039 ?_
  refine zo_rw (y := nI (i + 1)) (zn_add (rfl) (rfl)) ?_
  refine z_scd (j := i + 1) o hX dL_law_1040 (by omega) hL ?_
  refine z_aload_n (j := 3) o dL_law_1041 rfl ?_
  refine z_iload_n (j := 0) o dL_law_1042 rfl ?_
  refine z_iconst (v := 2) o dL_law_1043 (by decide) ?_
  refine z_iadd o dL_law_1044 ?_
  refine zo_rw (y := nI (i + 2)) (zn_add (rfl) (rfl)) ?_
  refine z_scd (j := i + 2) o hX dL_law_1045 (by omega) hL ?_
  refine z_callVi (As := [.int (xs (i + 1)), .int (xs (i + 2))]) (n := 2) (st := [.int r1]) o dL_law_1046 (c_X8_way hB M1 N1 (xs (i + 1)) (xs (i + 2)) (by rw [hh 83 (by decide)]; exact h.2.1)) zc_L_120 (by decide) (i := 82) (by rw [hB]; exact zsh_lt rfl (by decide)) (zg_o rfl (by decide)) rfl rfl rfl (Nat.le_of_ble_eq_true rfl) (fun r4 g5 p6 => ?_)
  obtain ⟨M2, rfl, e2, hq⟩ := p6
  refine z_icmpeq (tgt := 1489) o dL_law_1049 (by decide) (fun c7 => ?_) (fun c7 => ?_)
  · exact kk _ _ (tk_way (xs (i + 1)) (xs (i + 2)) h hh hr hq)
  · exact absurd (e1.trans ((congrArg Prod.fst (ek_way hh (xs (i + 1)) (xs (i + 2)))).symm.trans e2.symm)) c7
set_option maxHeartbeats 1000000 in
set_option maxRecDepth 20000 in
theorem arm_odds {X : zX} {B : zB} {b L i : Nat} {xs : Nat → Int32} {M : zM} {N : zN} (o : zOk X B RL cL_law 4 61) (hB : znn B = 95) (hX : zScr X B b L xs) (hL : L ≤ 3072) (hi : i + 6 ≤ L) (h : zS M N) (kk : ∀ (M1 : zM) (N1 : zN), zS M1 N1 → zW X B (zg B M1 N1) 1489 [(3, .int (nI i)), (2, zref B 82), (1, zref B 0), (0, .ref b)] []) : zW X B (zg B M N) 1054 [(3, .int (nI i)), (2, zref B 82), (1, zref B 0), (0, .ref b)] [] := by
  refine z_aload_n (j := 2) o dL_law_1054 rfl ?_
  refine z_aload_n (j := 3) o dL_law_1055 rfl ?_
  refine z_iload_n (j := 0) o dL_law_1056 rfl ?_
  refine z_iconst (v := 1) o dL_law_1057 (by decide) ?_
  refine z_iadd o dL_law_1058 ?_
  refine zo_rw (y := nI (i + 1)) (zn_add (rfl) (rfl)) ?_
  refine z_scd (j := i + 1) o hX dL_law_1059 (by omega) hL ?_
  refine z_callVi (As := [.int (xs (i + 1))]) (n := 1) (st := []) o dL_law_1060 (k_odds hB M N M (xs (i + 1)) h.1 h.2.1) zc_L_121 (by decide) (i := 0) (by rw [hB]; exact zsh_lt rfl (by decide)) (zg_o rfl (by decide)) rfl rfl rfl (Nat.le_of_ble_eq_true rfl) (fun r1 g2 p3 => ?_)
  obtain ⟨M1, N1, rfl, e1, hr, hh⟩ := p3
  refine z_aload_n (j := 1) o dL_law_1063 rfl ?_
  refine z_aload_n (j := 3) o dL_law_1064 rfl ?_
  refine z_iload_n (j := 0) o dL_law_1065 rfl ?_
  refine z_iconst (v := 1) o dL_law_1066 (by decide) ?_
  refine z_iadd o dL_law_1067 ?_
  refine zo_rw (y := nI (i + 1)) (zn_add (rfl) (rfl)) ?_
  refine z_scd (j := i + 1) o hX dL_law_1068 (by omega) hL ?_
  refine z_callVi (As := [.int (xs (i + 1))]) (n := 1) (st := [.int r1]) o dL_law_1069 (c_X8_odds hB M1 N1 (xs (i + 1)) (by rw [hh 83 (by decide)]; exact h.2.1)) zc_L_124 (by decide) (i := 82) (by rw [hB]; exact zsh_lt rfl (by decide)) (zg_o rfl (by decide)) rfl rfl rfl (Nat.le_of_ble_eq_true rfl) (fun r4 g5 p6 => ?_)
  obtain ⟨M2, rfl, e2, hq⟩ := p6
  refine z_icmpeq (tgt := 1489) o dL_law_1072 (by decide) (fun c7 => ?_) (fun c7 => ?_)
  · exact kk _ _ (tk_odds (xs (i + 1)) h hh hr hq)
  · exact absurd (e1.trans ((congrArg Prod.fst (ek_odds hh (xs (i + 1)))).symm.trans e2.symm)) c7
set_option maxHeartbeats 1000000 in
set_option maxRecDepth 20000 in
theorem arm_fits {X : zX} {B : zB} {b L i : Nat} {xs : Nat → Int32} {M : zM} {N : zN} (o : zOk X B RL cL_law 4 61) (hB : znn B = 95) (hX : zScr X B b L xs) (hL : L ≤ 3072) (hi : i + 6 ≤ L) (h : zS M N) (kk : ∀ (M1 : zM) (N1 : zN), zS M1 N1 → zW X B (zg B M1 N1) 1489 [(3, .int (nI i)), (2, zref B 82), (1, zref B 0), (0, .ref b)] []) : zW X B (zg B M N) 1077 [(3, .int (nI i)), (2, zref B 82), (1, zref B 0), (0, .ref b)] [] := by
  refine z_aload_n (j := 2) o dL_law_1077 rfl ?_
  refine z_aload_n (j := 3) o dL_law_1078 rfl ?_
  refine z_iload_n (j := 0) o dL_law_1079 rfl ?_
  refine z_iconst (v := 1) o dL_law_1080 (by decide) ?_
  refine z_iadd o dL_law_1081 ?_
  refine zo_rw (y := nI (i + 1)) (zn_add (rfl) (rfl)) ?_
  refine z_scd (j := i + 1) o hX dL_law_1082 (by omega) hL ?_
  refine z_aload_n (j := 3) o dL_law_1083 rfl ?_
  refine z_iload_n (j := 0) o dL_law_1084 rfl ?_
  refine z_iconst (v := 2) o dL_law_1085 (by decide) ?_
  refine z_iadd o dL_law_1086 ?_
  refine zo_rw (y := nI (i + 2)) (zn_add (rfl) (rfl)) ?_
  refine z_scd (j := i + 2) o hX dL_law_1087 (by omega) hL ?_
  refine z_callVi (As := [.int (xs (i + 1)), .int (xs (i + 2))]) (n := 2) (st := []) o dL_law_1088 (k_fits hB M N M (xs (i + 1)) (xs (i + 2)) h.1 h.2.1 h.2.2.2.1) zc_L_125 (by decide) (i := 0) (by rw [hB]; exact zsh_lt rfl (by decide)) (zg_o rfl (by decide)) rfl rfl rfl (Nat.le_of_ble_eq_true rfl) (fun r1 g2 p3 => ?_)
  obtain ⟨M1, N1, rfl, e1, hr, hh⟩ := p3
  refine z_aload_n (j := 1) o dL_law_1091 rfl ?_
  refine z_aload_n (j := 3) o dL_law_1092 rfl ?_
  refine z_iload_n (j := 0) o dL_law_1093 rfl ?_
  refine z_iconst (v := 1) o dL_law_1094 (by decide) ?_
  refine z_iadd o dL_law_1095 ?_
  refine zo_rw (y := nI (i + 1)) (zn_add (rfl) (rfl)) ?_
  refine z_scd (j := i + 1) o hX dL_law_1096 (by omega) hL ?_
  refine z_aload_n (j := 3) o dL_law_1097 rfl ?_
  refine z_iload_n (j := 0) o dL_law_1098 rfl ?_
  refine z_iconst (v := 2) o dL_law_1099 (by decide) ?_
  refine z_iadd o dL_law_1100 ?_
  refine zo_rw (y := nI (i + 2)) (zn_add (rfl) (rfl)) ?_
  refine z_scd (j := i + 2) o hX dL_law_1101 (by omega) hL ?_
  refine z_callVi (As := [.int (xs (i + 1)), .int (xs (i + 2))]) (n := 2) (st := [.int r1]) o dL_law_1102 (c_X8_fits hB M1 N1 (xs (i + 1)) (xs (i + 2)) (by rw [hh 83 (by decide)]; exact h.2.1) (fun s9 hs9 => by rw [hh 88 (by decide)]; exact h.2.2.2.1 s9 hs9)) zc_L_128 (by decide) (i := 82) (by rw [hB]; exact zsh_lt rfl (by decide)) (zg_o rfl (by decide)) rfl rfl rfl (Nat.le_of_ble_eq_true rfl) (fun r4 g5 p6 => ?_)
  obtain ⟨M2, rfl, e2, hq⟩ := p6
  refine z_icmpeq (tgt := 1489) o dL_law_1105 (by decide) (fun c7 => ?_) (fun c7 => ?_)
  · exact kk _ _ (tk_fits (xs (i + 1)) (xs (i + 2)) h hh hr hq)
  · exact absurd (e1.trans ((congrArg Prod.fst (ek_fits hh (xs (i + 1)) (xs (i + 2)))).symm.trans e2.symm)) c7
set_option maxHeartbeats 1000000 in
set_option maxRecDepth 20000 in
theorem arm_voice {X : zX} {B : zB} {b L i : Nat} {xs : Nat → Int32} {M : zM} {N : zN} (o : zOk X B RL cL_law 4 61) (hB : znn B = 95) (hX : zScr X B b L xs) (hL : L ≤ 3072) (hi : i + 6 ≤ L) (h : zS M N) (kk : ∀ (M1 : zM) (N1 : zN), zS M1 N1 → zW X B (zg B M1 N1) 1489 [(3, .int (nI i)), (2, zref B 82), (1, zref B 0), (0, .ref b)] []) : zW X B (zg B M N) 1110 [(3, .int (nI i)), (2, zref B 82), (1, zref B 0), (0, .ref b)] [] := by
  refine z_aload_n (j := 2) o dL_law_1110 rfl ?_
  refine z_aload_n (j := 3) o dL_law_1111 rfl ?_
  refine z_iload_n (j := 0) o dL_law_1112 rfl ?_
  refine z_iconst (v := 1) o dL_law_1113 (by decide) ?_
  refine z_iadd o dL_law_1114 ?_
  refine zo_rw (y := nI (i + 1)) (zn_add (rfl) (rfl)) ?_
  refine z_scd (j := i + 1) o hX dL_law_1115 (by omega) hL ?_
  refine z_aload_n (j := 3) o dL_law_1116 rfl ?_
  refine z_iload_n (j := 0) o dL_law_1117 rfl ?_
  refine z_iconst (v := 2) o dL_law_1118 (by decide) ?_
  refine z_iadd o dL_law_1119 ?_
  refine zo_rw (y := nI (i + 2)) (zn_add (rfl) (rfl)) ?_
  refine z_scd (j := i + 2) o hX dL_law_1120 (by omega) hL ?_
  refine z_aload_n (j := 3) o dL_law_1121 rfl ?_
  refine z_iload_n (j := 0) o dL_law_1122 rfl ?_
  refine z_iconst (v := 3) o dL_law_1123 (by decide) ?_
  refine z_iadd o dL_law_1124 ?_
  refine zo_rw (y := nI (i + 3)) (zn_add (rfl) (rfl)) ?_
  refine z_scd (j := i + 3) o hX dL_law_1125 (by omega) hL ?_
  refine z_callVi (As := [.int (xs (i + 1)), .int (xs (i + 2)), .int (xs (i + 3))]) (n := 3) (st := []) o dL_law_1126 (k_voice hB M N M (xs (i + 1)) (xs (i + 2)) (xs (i + 3)) h.1 h.2.1) zc_L_129 (by decide) (i := 0) (by rw [hB]; exact zsh_lt rfl (by decide)) (zg_o rfl (by decide)) rfl rfl rfl (Nat.le_of_ble_eq_true rfl) (fun r1 g2 p3 => ?_)
  obtain ⟨M1, N1, rfl, e1, hr, hh⟩ := p3
  refine z_aload_n (j := 1) o dL_law_1129 rfl ?_
  refine z_aload_n (j := 3) o dL_law_1130 rfl ?_
  refine z_iload_n (j := 0) o dL_law_1131 rfl ?_
  refine z_iconst (v := 1) o dL_law_1132 (by decide) ?_
  refine z_iadd o dL_law_1133 ?_
  refine zo_rw (y := nI (i + 1)) (zn_add (rfl) (rfl)) ?_
  refine z_scd (j := i + 1) o hX dL_law_1134 (by omega) hL ?_
  refine z_aload_n (j := 3) o dL_law_1135 rfl ?_
  refine z_iload_n (j := 0) o dL_law_1136 rfl ?_
  refine z_iconst (v := 2) o dL_law_1137 (by decide) ?_
  refine z_iadd o dL_law_1138 ?_
  refine zo_rw (y := nI (i + 2)) (zn_add (rfl) (rfl)) ?_
  refine z_scd (j := i + 2) o hX dL_law_1139 (by omega) hL ?_
  refine z_aload_n (j := 3) o dL_law_1140 rfl ?_
  refine z_iload_n (j := 0) o dL_law_1141 rfl ?_
  refine z_iconst (v := 3) o dL_law_1142 (by decide) ?_
  refine z_iadd o dL_law_1143 ?_
  refine zo_rw (y := nI (i + 3)) (zn_add (rfl) (rfl)) ?_
  refine z_scd (j := i + 3) o hX dL_law_1144 (by omega) hL ?_
  refine z_callVi (As := [.int (xs (i + 1)), .int (xs (i + 2)), .int (xs (i + 3))]) (n := 3) (st := [.int r1]) o dL_law_1145 (c_X8_voice hB M1 N1 (xs (i + 1)) (xs (i + 2)) (xs (i + 3)) (by rw [hh 83 (by decide)]; exact h.2.1)) zc_L_132 (by decide) (i := 82) (by rw [hB]; exact zsh_lt rfl (by decide)) (zg_o rfl (by decide)) rfl rfl rfl (Nat.le_of_ble_eq_true rfl) (fun r4 g5 p6 => ?_)
  obtain ⟨M2, rfl, e2, hq⟩ := p6
  refine z_icmpeq (tgt := 1489) o dL_law_1148 (by decide) (fun c7 => ?_) (fun c7 => ?_)
  · exact kk _ _ (tk_voice (xs (i + 1)) (xs (i + 2)) (xs (i + 3)) h hh hr hq)
  · exact absurd (e1.trans ((congrArg Prod.fst (ek_voice hh (xs (i + 1)) (xs (i + 2)) (xs (i + 3)))).symm.trans e2.symm)) c7
set_option maxHeartbeats 1000000 in
set_option maxRecDepth 20000 in
theorem arm_body {X : zX} {B : zB} {b L i : Nat} {xs : Nat → Int32} {M : zM} {N : zN} (o : zOk X B RL cL_law 4 61) (hB : znn B = 95) (hX : zScr X B b L xs) (hL : L ≤ 3072) (hi : i + 6 ≤ L) (h : zS M N) (kk : ∀ (M1 : zM) (N1 : zN), zS M1 N1 → zW X B (zg B M1 N1) 1489 [(3, .int (nI i)), (2, zref B 82), (1, zref B 0), (0, .ref b)] []) : zW X B (zg B M N) 1153 [(3, .int (nI i)), (2, zref B 82), (1, zref B 0), (0, .ref b)] [] := by
  refine z_aload_n (j := 2) o dL_law_1153 rfl ?_
  refine z_aload_n (j := 3) o dL_law_1154 rfl ?_
  refine z_iload_n (j := 0) o dL_law_1155 rfl ?_
  refine z_iconst (v := 1) o dL_law_1156 (by decide) ?_
  refine z_iadd o dL_law_1157 ?_
  refine zo_rw (y := nI (i + 1)) (zn_add (rfl) (rfl)) ?_
  refine z_scd (j := i + 1) o hX dL_law_1158 (by omega) hL ?_
  refine z_callVi (As := [.int (xs (i + 1))]) (n := 1) (st := []) o dL_law_1159 (k_body hB M N M (xs (i + 1)) h.1 h.2.1 h.2.2.2.2) zc_L_133 (by decide) (i := 0) (by rw [hB]; exact zsh_lt rfl (by decide)) (zg_o rfl (by decide)) rfl rfl rfl (Nat.le_of_ble_eq_true rfl) (fun r1 g2 p3 => ?_)
  obtain ⟨M1, N1, rfl, e1, hr, hh⟩ := p3
  refine z_aload_n (j := 1) o dL_law_1162 rfl ?_
  refine z_aload_n (j := 3) o dL_law_1163 rfl ?_
  refine z_iload_n (j := 0) o dL_law_1164 rfl ?_
  refine z_iconst (v := 1) o dL_law_1165 (by decide) ?_
  refine z_iadd o dL_law_1166 ?_
  refine zo_rw (y := nI (i + 1)) (zn_add (rfl) (rfl)) ?_
  refine z_scd (j := i + 1) o hX dL_law_1167 (by omega) hL ?_
  refine z_callVi (As := [.int (xs (i + 1))]) (n := 1) (st := [.int r1]) o dL_law_1168 (c_X8_body hB M1 N1 (xs (i + 1)) (by unfold zTrOk; rw [hh 82 (by decide)]; exact h.2.2.2.2)) zc_L_136 (by decide) (i := 82) (by rw [hB]; exact zsh_lt rfl (by decide)) (zg_o rfl (by decide)) rfl rfl rfl (Nat.le_of_ble_eq_true rfl) (fun r4 g5 p6 => ?_)
  obtain ⟨rfl, e2⟩ := p6
  refine z_icmpeq (tgt := 1489) o dL_law_1171 (by decide) (fun c7 => ?_) (fun c7 => ?_)
  · exact kk _ _ (tk_body (xs (i + 1)) h hh hr zQ.rf)
  · exact absurd (e1.trans ((congrArg Prod.fst (ek_body hh (xs (i + 1)))).symm.trans e2.symm)) c7
set_option maxHeartbeats 1000000 in
set_option maxRecDepth 20000 in
theorem arm_sheet {X : zX} {B : zB} {b L i : Nat} {xs : Nat → Int32} {M : zM} {N : zN} (o : zOk X B RL cL_law 4 61) (hB : znn B = 95) (hX : zScr X B b L xs) (hL : L ≤ 3072) (hi : i + 6 ≤ L) (h : zS M N) (kk : ∀ (M1 : zM) (N1 : zN), zS M1 N1 → zW X B (zg B M1 N1) 1489 [(3, .int (nI i)), (2, zref B 82), (1, zref B 0), (0, .ref b)] []) : zW X B (zg B M N) 1176 [(3, .int (nI i)), (2, zref B 82), (1, zref B 0), (0, .ref b)] [] := by
  refine z_aload_n (j := 2) o dL_law_1176 rfl ?_
  refine z_aload_n (j := 3) o dL_law_1177 rfl ?_
  refine z_iload_n (j := 0) o dL_law_1178 rfl ?_
  refine z_iconst (v := 1) o dL_law_1179 (by decide) ?_
  refine z_iadd o dL_law_1180 ?_
  refine zo_rw (y := nI (i + 1)) (zn_add (rfl) (rfl)) ?_
  refine z_scd (j := i + 1) o hX dL_law_1181 (by omega) hL ?_
  refine z_aload_n (j := 3) o dL_law_1182 rfl ?_
  refine z_iload_n (j := 0) o dL_law_1183 rfl ?_
  refine z_iconst (v := 2) o dL_law_1184 (by decide) ?_
  refine z_iadd o dL_law_1185 ?_
  refine zo_rw (y := nI (i + 2)) (zn_add (rfl) (rfl)) ?_
  refine z_scd (j := i + 2) o hX dL_law_1186 (by omega) hL ?_
  refine z_aload_n (j := 3) o dL_law_1187 rfl ?_
  refine z_iload_n (j := 0) o dL_law_1188 rfl ?_
  refine z_iconst (v := 3) o dL_law_1189 (by decide) ?_
  refine z_iadd o dL_law_1190 ?_
  refine zo_rw (y := nI (i + 3)) (zn_add (rfl) (rfl)) ?_
  refine z_scd (j := i + 3) o hX dL_law_1191 (by omega) hL ?_
  refine z_callVi (As := [.int (xs (i + 1)), .int (xs (i + 2)), .int (xs (i + 3))]) (n := 3) (st := []) o dL_law_1192 (k_sheet hB M N M (xs (i + 1)) (xs (i + 2)) (xs (i + 3)) h.1 h.2.1) zc_L_137 (by decide) (i := 0) (by rw [hB]; exact zsh_lt rfl (by decide)) (zg_o rfl (by decide)) rfl rfl rfl (Nat.le_of_ble_eq_true rfl) (fun r1 g2 p3 => ?_)
  obtain ⟨M1, N1, rfl, e1, hr, hh⟩ := p3
  refine z_aload_n (j := 1) o dL_law_1195 rfl ?_
  refine z_aload_n (j := 3) o dL_law_1196 rfl ?_
  refine z_iload_n (j := 0) o dL_law_1197 rfl ?_
  refine z_iconst (v := 1) o dL_law_1198 (by decide) ?_
  refine z_iadd o dL_law_1199 ?_
  refine zo_rw (y := nI (i + 1)) (zn_add (rfl) (rfl)) ?_
  refine z_scd (j := i + 1) o hX dL_law_1200 (by omega) hL ?_
  refine z_aload_n (j := 3) o dL_law_1201 rfl ?_
  refine z_iload_n (j := 0) o dL_law_1202 rfl ?_
  refine z_iconst (v := 2) o dL_law_1203 (by decide) ?_
  refine z_iadd o dL_law_1204 ?_
  refine zo_rw (y := nI (i + 2)) (zn_add (rfl) (rfl)) ?_
  refine z_scd (j := i + 2) o hX dL_law_1205 (by omega) hL ?_
  refine z_aload_n (j := 3) o dL_law_1206 rfl ?_
  refine z_iload_n (j := 0) o dL_law_1207 rfl ?_
  refine z_iconst (v := 3) o dL_law_1208 (by decide) ?_
  refine z_iadd o dL_law_1209 ?_
  refine zo_rw (y := nI (i + 3)) (zn_add (rfl) (rfl)) ?_
  refine z_scd (j := i + 3) o hX dL_law_1210 (by omega) hL ?_
  refine z_callVi (As := [.int (xs (i + 1)), .int (xs (i + 2)), .int (xs (i + 3))]) (n := 3) (st := [.int r1]) o dL_law_1211 (c_X8_sheet hB M1 N1 (xs (i + 1)) (xs (i + 2)) (xs (i + 3)) ) zc_L_140 (by decide) (i := 82) (by rw [hB]; exact zsh_lt rfl (by decide)) (zg_o rfl (by decide)) rfl rfl rfl (Nat.le_of_ble_eq_true rfl) (fun r4 g5 p6 => ?_)
  obtain ⟨rfl, e2⟩ := p6
  refine z_icmpeq (tgt := 1489) o dL_law_1214 (by decide) (fun c7 => ?_) (fun c7 => ?_)
  · exact kk _ _ (tk_sheet (xs (i + 1)) (xs (i + 2)) (xs (i + 3)) h hh hr zQ.rf)
  · exact absurd (e1.trans ((congrArg Prod.fst (ek_sheet hh (xs (i + 1)) (xs (i + 2)) (xs (i + 3)))).symm.trans e2.symm)) c7
set_option maxHeartbeats 1000000 in
set_option maxRecDepth 20000 in
theorem arm_put {X : zX} {B : zB} {b L i : Nat} {xs : Nat → Int32} {M : zM} {N : zN} (o : zOk X B RL cL_law 4 61) (hB : znn B = 95) (hX : zScr X B b L xs) (hL : L ≤ 3072) (hi : i + 6 ≤ L) (h : zS M N) (kk : ∀ (M1 : zM) (N1 : zN), zS M1 N1 → zW X B (zg B M1 N1) 1489 [(3, .int (nI i)), (2, zref B 82), (1, zref B 0), (0, .ref b)] []) : zW X B (zg B M N) 1219 [(3, .int (nI i)), (2, zref B 82), (1, zref B 0), (0, .ref b)] [] := by
  refine z_aload_n (j := 2) o dL_law_1219 rfl ?_
  refine z_aload_n (j := 3) o dL_law_1220 rfl ?_
  refine z_iload_n (j := 0) o dL_law_1221 rfl ?_
  refine z_iconst (v := 1) o dL_law_1222 (by decide) ?_
  refine z_iadd o dL_law_1223 ?_
  refine zo_rw (y := nI (i + 1)) (zn_add (rfl) (rfl)) ?_
  refine z_scd (j := i + 1) o hX dL_law_1224 (by omega) hL ?_
  refine z_aload_n (j := 3) o dL_law_1225 rfl ?_
  refine z_iload_n (j := 0) o dL_law_1226 rfl ?_
  refine z_iconst (v := 2) o dL_law_1227 (by decide) ?_
  refine z_iadd o dL_law_1228 ?_
  refine zo_rw (y := nI (i + 2)) (zn_add (rfl) (rfl)) ?_
  refine z_scd (j := i + 2) o hX dL_law_1229 (by omega) hL ?_
  refine z_aload_n (j := 3) o dL_law_1230 rfl ?_
  refine z_iload_n (j := 0) o dL_law_1231 rfl ?_
  refine z_iconst (v := 3) o dL_law_1232 (by decide) ?_
  refine z_iadd o dL_law_1233 ?_
  refine zo_rw (y := nI (i + 3)) (zn_add (rfl) (rfl)) ?_
  refine z_scd (j := i + 3) o hX dL_law_1234 (by omega) hL ?_
  refine z_callVi (As := [.int (xs (i + 1)), .int (xs (i + 2)), .int (xs (i + 3))]) (n := 3) (st := []) o dL_law_1235 (k_put hB M N M (xs (i + 1)) (xs (i + 2)) (xs (i + 3)) h.1 h.2.1 h.2.2.2.1) zc_L_141 (by decide) (i := 0) (by rw [hB]; exact zsh_lt rfl (by decide)) (zg_o rfl (by decide)) rfl rfl rfl (Nat.le_of_ble_eq_true rfl) (fun r1 g2 p3 => ?_)
  obtain ⟨M1, N1, rfl, e1, hr, hh⟩ := p3
  refine z_aload_n (j := 1) o dL_law_1238 rfl ?_
  refine z_aload_n (j := 3) o dL_law_1239 rfl ?_
  refine z_iload_n (j := 0) o dL_law_1240 rfl ?_
  refine z_iconst (v := 1) o dL_law_1241 (by decide) ?_
  refine z_iadd o dL_law_1242 ?_
  refine zo_rw (y := nI (i + 1)) (zn_add (rfl) (rfl)) ?_
  refine z_scd (j := i + 1) o hX dL_law_1243 (by omega) hL ?_
  refine z_aload_n (j := 3) o dL_law_1244 rfl ?_
  refine z_iload_n (j := 0) o dL_law_1245 rfl ?_
  refine z_iconst (v := 2) o dL_law_1246 (by decide) ?_
  refine z_iadd o dL_law_1247 ?_
  refine zo_rw (y := nI (i + 2)) (zn_add (rfl) (rfl)) ?_
  refine z_scd (j := i + 2) o hX dL_law_1248 (by omega) hL ?_
  refine z_aload_n (j := 3) o dL_law_1249 rfl ?_
  refine z_iload_n (j := 0) o dL_law_1250 rfl ?_
  refine z_iconst (v := 3) o dL_law_1251 (by decide) ?_
  refine z_iadd o dL_law_1252 ?_
  refine zo_rw (y := nI (i + 3)) (zn_add (rfl) (rfl)) ?_
  refine z_scd (j := i + 3) o hX dL_law_1253 (by omega) hL ?_
  refine z_callVi (As := [.int (xs (i + 1)), .int (xs (i + 2)), .int (xs (i + 3))]) (n := 3) (st := [.int r1]) o dL_law_1254 (c_X8_put hB M1 N1 (xs (i + 1)) (xs (i + 2)) (xs (i + 3)) (fun s9 hs9 => by rw [hh 88 (by decide)]; exact h.2.2.2.1 s9 hs9)) zc_L_144 (by decide) (i := 82) (by rw [hB]; exact zsh_lt rfl (by decide)) (zg_o rfl (by decide)) rfl rfl rfl (Nat.le_of_ble_eq_true rfl) (fun r4 g5 p6 => ?_)
  obtain ⟨rfl, e2⟩ := p6
  refine z_icmpeq (tgt := 1489) o dL_law_1257 (by decide) (fun c7 => ?_) (fun c7 => ?_)
  · exact kk _ _ (tk_put (xs (i + 1)) (xs (i + 2)) (xs (i + 3)) h hh hr zQ.rf)
  · exact absurd (e1.trans ((congrArg Prod.fst (ek_put hh (xs (i + 1)) (xs (i + 2)) (xs (i + 3)))).symm.trans e2.symm)) c7
set_option maxHeartbeats 1000000 in
set_option maxRecDepth 20000 in
theorem arm_move {X : zX} {B : zB} {b L i : Nat} {xs : Nat → Int32} {M : zM} {N : zN} (o : zOk X B RL cL_law 4 61) (hB : znn B = 95) (hX : zScr X B b L xs) (hL : L ≤ 3072) (hi : i + 6 ≤ L) (h : zS M N) (kk : ∀ (M1 : zM) (N1 : zN), zS M1 N1 → zW X B (zg B M1 N1) 1489 [(3, .int (nI i)), (2, zref B 82), (1, zref B 0), (0, .ref b)] []) : zW X B (zg B M N) 1262 [(3, .int (nI i)), (2, zref B 82), (1, zref B 0), (0, .ref b)] [] := by
  refine z_aload_n (j := 2) o dL_law_1262 rfl ?_
  refine z_aload_n (j := 3) o dL_law_1263 rfl ?_
  refine z_iload_n (j := 0) o dL_law_1264 rfl ?_
  refine z_iconst (v := 1) o dL_law_1265 (by decide) ?_
  refine z_iadd o dL_law_1266 ?_
  refine zo_rw (y := nI (i + 1)) (zn_add (rfl) (rfl)) ?_
  refine z_scd (j := i + 1) o hX dL_law_1267 (by omega) hL ?_
  refine z_aload_n (j := 3) o dL_law_1268 rfl ?_
  refine z_iload_n (j := 0) o dL_law_1269 rfl ?_
  refine z_iconst (v := 2) o dL_law_1270 (by decide) ?_
  refine z_iadd o dL_law_1271 ?_
  refine zo_rw (y := nI (i + 2)) (zn_add (rfl) (rfl)) ?_
  refine z_scd (j := i + 2) o hX dL_law_1272 (by omega) hL ?_
  refine z_aload_n (j := 3) o dL_law_1273 rfl ?_
  refine z_iload_n (j := 0) o dL_law_1274 rfl ?_
  refine z_iconst (v := 3) o dL_law_1275 (by decide) ?_
  refine z_iadd o dL_law_1276 ?_
  refine zo_rw (y := nI (i + 3)) (zn_add (rfl) (rfl)) ?_
  refine z_scd (j := i + 3) o hX dL_law_1277 (by omega) hL ?_
  refine z_aload_n (j := 3) o dL_law_1278 rfl ?_
  refine z_iload_n (j := 0) o dL_law_1279 rfl ?_
  refine z_iconst (v := 4) o dL_law_1280 (by decide) ?_
  refine z_iadd o dL_law_1281 ?_
  refine zo_rw (y := nI (i + 4)) (zn_add (rfl) (rfl)) ?_
  refine z_scd (j := i + 4) o hX dL_law_1282 (by omega) hL ?_
  refine z_aload_n (j := 3) o dL_law_1283 rfl ?_
  refine z_iload_n (j := 0) o dL_law_1284 rfl ?_
  refine z_iconst (v := 5) o dL_law_1285 (by decide) ?_
  refine z_iadd o dL_law_1286 ?_
  refine zo_rw (y := nI (i + 5)) (zn_add (rfl) (rfl)) ?_
  refine z_scd (j := i + 5) o hX dL_law_1287 (by omega) hL ?_
  refine z_callVi (As := [.int (xs (i + 1)), .int (xs (i + 2)), .int (xs (i + 3)), .int (xs (i + 4)), .int (xs (i + 5))]) (n := 5) (st := []) o dL_law_1288 (k_move hB M N M (xs (i + 1)) (xs (i + 2)) (xs (i + 3)) (xs (i + 4)) (xs (i + 5)) h.1 h.2.1 h.2.2.2.1) zc_L_145 (by decide) (i := 0) (by rw [hB]; exact zsh_lt rfl (by decide)) (zg_o rfl (by decide)) rfl rfl rfl (Nat.le_of_ble_eq_true rfl) (fun r1 g2 p3 => ?_)
  obtain ⟨M1, N1, rfl, e1, hr, hh⟩ := p3
  refine z_aload_n (j := 1) o dL_law_1291 rfl ?_
  refine z_aload_n (j := 3) o dL_law_1292 rfl ?_
  refine z_iload_n (j := 0) o dL_law_1293 rfl ?_
  refine z_iconst (v := 1) o dL_law_1294 (by decide) ?_
  refine z_iadd o dL_law_1295 ?_
  refine zo_rw (y := nI (i + 1)) (zn_add (rfl) (rfl)) ?_
  refine z_scd (j := i + 1) o hX dL_law_1296 (by omega) hL ?_
  refine z_aload_n (j := 3) o dL_law_1297 rfl ?_
  refine z_iload_n (j := 0) o dL_law_1298 rfl ?_
  refine z_iconst (v := 2) o dL_law_1299 (by decide) ?_
  refine z_iadd o dL_law_1300 ?_
  refine zo_rw (y := nI (i + 2)) (zn_add (rfl) (rfl)) ?_
  refine z_scd (j := i + 2) o hX dL_law_1301 (by omega) hL ?_
  refine z_aload_n (j := 3) o dL_law_1302 rfl ?_
  refine z_iload_n (j := 0) o dL_law_1303 rfl ?_
  refine z_iconst (v := 3) o dL_law_1304 (by decide) ?_
  refine z_iadd o dL_law_1305 ?_
  refine zo_rw (y := nI (i + 3)) (zn_add (rfl) (rfl)) ?_
  refine z_scd (j := i + 3) o hX dL_law_1306 (by omega) hL ?_
  refine z_aload_n (j := 3) o dL_law_1307 rfl ?_
  refine z_iload_n (j := 0) o dL_law_1308 rfl ?_
  refine z_iconst (v := 4) o dL_law_1309 (by decide) ?_
  refine z_iadd o dL_law_1310 ?_
  refine zo_rw (y := nI (i + 4)) (zn_add (rfl) (rfl)) ?_
  refine z_scd (j := i + 4) o hX dL_law_1311 (by omega) hL ?_
  refine z_aload_n (j := 3) o dL_law_1312 rfl ?_
  refine z_iload_n (j := 0) o dL_law_1313 rfl ?_
  refine z_iconst (v := 5) o dL_law_1314 (by decide) ?_
  refine z_iadd o dL_law_1315 ?_
  refine zo_rw (y := nI (i + 5)) (zn_add (rfl) (rfl)) ?_
  refine z_scd (j := i + 5) o hX dL_law_1316 (by omega) hL ?_
  refine z_callVi (As := [.int (xs (i + 1)), .int (xs (i + 2)), .int (xs (i + 3)), .int (xs (i + 4)), .int (xs (i + 5))]) (n := 5) (st := [.int r1]) o dL_law_1317 (c_X8_move hB M1 N1 (xs (i + 1)) (xs (i + 2)) (xs (i + 3)) (xs (i + 4)) (xs (i + 5)) (fun s9 hs9 => by rw [hh 88 (by decide)]; exact h.2.2.2.1 s9 hs9)) zc_L_149 (by decide) (i := 82) (by rw [hB]; exact zsh_lt rfl (by decide)) (zg_o rfl (by decide)) rfl rfl rfl (Nat.le_of_ble_eq_true rfl) (fun r4 g5 p6 => ?_)
  obtain ⟨rfl, e2⟩ := p6
  refine z_icmpeq (tgt := 1489) o dL_law_1320 (by decide) (fun c7 => ?_) (fun c7 => ?_)
  · exact kk _ _ (tk_move (xs (i + 1)) (xs (i + 2)) (xs (i + 3)) (xs (i + 4)) (xs (i + 5)) h hh hr zQ.rf)
  · exact absurd (e1.trans ((congrArg Prod.fst (ek_move hh (xs (i + 1)) (xs (i + 2)) (xs (i + 3)) (xs (i + 4)) (xs (i + 5)))).symm.trans e2.symm)) c7
set_option maxHeartbeats 1000000 in
set_option maxRecDepth 20000 in
theorem arm_sets {X : zX} {B : zB} {b L i : Nat} {xs : Nat → Int32} {M : zM} {N : zN} (o : zOk X B RL cL_law 4 61) (hB : znn B = 95) (hX : zScr X B b L xs) (hL : L ≤ 3072) (hi : i + 6 ≤ L) (h : zS M N) (kk : ∀ (M1 : zM) (N1 : zN), zS M1 N1 → zW X B (zg B M1 N1) 1489 [(3, .int (nI i)), (2, zref B 82), (1, zref B 0), (0, .ref b)] []) : zW X B (zg B M N) 1325 [(3, .int (nI i)), (2, zref B 82), (1, zref B 0), (0, .ref b)] [] := by
  refine z_aload_n (j := 2) o dL_law_1325 rfl ?_
  refine z_aload_n (j := 3) o dL_law_1326 rfl ?_
  refine z_iload_n (j := 0) o dL_law_1327 rfl ?_
  refine z_iconst (v := 1) o dL_law_1328 (by decide) ?_
  refine z_iadd o dL_law_1329 ?_
  refine zo_rw (y := nI (i + 1)) (zn_add (rfl) (rfl)) ?_
  refine z_scd (j := i + 1) o hX dL_law_1330 (by omega) hL ?_
  refine z_aload_n (j := 3) o dL_law_1331 rfl ?_
  refine z_iload_n (j := 0) o dL_law_1332 rfl ?_
  refine z_iconst (v := 2) o dL_law_1333 (by decide) ?_
  refine z_iadd o dL_law_1334 ?_
  refine zo_rw (y := nI (i + 2)) (zn_add (rfl) (rfl)) ?_
  refine z_scd (j := i + 2) o hX dL_law_1335 (by omega) hL ?_
  refine z_callVi (As := [.int (xs (i + 1)), .int (xs (i + 2))]) (n := 2) (st := []) o dL_law_1336 (k_sets hB M N M (xs (i + 1)) (xs (i + 2)) h.1 h.2.1 h.2.2.2.1) zc_L_150 (by decide) (i := 0) (by rw [hB]; exact zsh_lt rfl (by decide)) (zg_o rfl (by decide)) rfl rfl rfl (Nat.le_of_ble_eq_true rfl) (fun r1 g2 p3 => ?_)
  obtain ⟨M1, N1, rfl, e1, hr, hh⟩ := p3
  refine z_aload_n (j := 1) o dL_law_1339 rfl ?_
  refine z_aload_n (j := 3) o dL_law_1340 rfl ?_
  refine z_iload_n (j := 0) o dL_law_1341 rfl ?_
  refine z_iconst (v := 1) o dL_law_1342 (by decide) ?_
  refine z_iadd o dL_law_1343 ?_
  refine zo_rw (y := nI (i + 1)) (zn_add (rfl) (rfl)) ?_
  refine z_scd (j := i + 1) o hX dL_law_1344 (by omega) hL ?_
  refine z_aload_n (j := 3) o dL_law_1345 rfl ?_
  refine z_iload_n (j := 0) o dL_law_1346 rfl ?_
  refine z_iconst (v := 2) o dL_law_1347 (by decide) ?_
  refine z_iadd o dL_law_1348 ?_
  refine zo_rw (y := nI (i + 2)) (zn_add (rfl) (rfl)) ?_
  refine z_scd (j := i + 2) o hX dL_law_1349 (by omega) hL ?_
  refine z_callVi (As := [.int (xs (i + 1)), .int (xs (i + 2))]) (n := 2) (st := [.int r1]) o dL_law_1350 (c_X8_sets hB M1 N1 (xs (i + 1)) (xs (i + 2)) (by rw [hh 83 (by decide)]; exact h.2.1) (fun s9 hs9 => by rw [hh 88 (by decide)]; exact h.2.2.2.1 s9 hs9)) zc_L_153 (by decide) (i := 82) (by rw [hB]; exact zsh_lt rfl (by decide)) (zg_o rfl (by decide)) rfl rfl rfl (Nat.le_of_ble_eq_true rfl) (fun r4 g5 p6 => ?_)
  obtain ⟨rfl, e2⟩ := p6
  refine z_icmpeq (tgt := 1489) o dL_law_1353 (by decide) (fun c7 => ?_) (fun c7 => ?_)
  · exact kk _ _ (tk_sets (xs (i + 1)) (xs (i + 2)) h hh hr zQ.rf)
  · exact absurd (e1.trans ((congrArg Prod.fst (ek_sets hh (xs (i + 1)) (xs (i + 2)))).symm.trans e2.symm)) c7
set_option maxHeartbeats 1000000 in
set_option maxRecDepth 20000 in
theorem arm_judge {X : zX} {B : zB} {b L i : Nat} {xs : Nat → Int32} {M : zM} {N : zN} (o : zOk X B RL cL_law 4 61) (hB : znn B = 95) (hX : zScr X B b L xs) (hL : L ≤ 3072) (hi : i + 6 ≤ L) (h : zS M N) (kk : ∀ (M1 : zM) (N1 : zN), zS M1 N1 → zW X B (zg B M1 N1) 1489 [(3, .int (nI i)), (2, zref B 82), (1, zref B 0), (0, .ref b)] []) : zW X B (zg B M N) 1358 [(3, .int (nI i)), (2, zref B 82), (1, zref B 0), (0, .ref b)] [] := by
  refine z_aload_n (j := 2) o dL_law_1358 rfl ?_
  refine z_aload_n (j := 3) o dL_law_1359 rfl ?_
  refine z_iload_n (j := 0) o dL_law_1360 rfl ?_
  refine z_iconst (v := 1) o dL_law_1361 (by decide) ?_
  refine z_iadd o dL_law_1362 ?_
  refine zo_rw (y := nI (i + 1)) (zn_add (rfl) (rfl)) ?_
  refine z_scd (j := i + 1) o hX dL_law_1363 (by omega) hL ?_
  refine z_callVi (As := [.int (xs (i + 1))]) (n := 1) (st := []) o dL_law_1364 (k_judge hB M N M (xs (i + 1)) h.1 h.2.1 h.2.2.2.1) zc_L_154 (by decide) (i := 0) (by rw [hB]; exact zsh_lt rfl (by decide)) (zg_o rfl (by decide)) rfl rfl rfl (Nat.le_of_ble_eq_true rfl) (fun r1 g2 p3 => ?_)
  obtain ⟨M1, N1, rfl, e1, hr, hh⟩ := p3
  refine z_aload_n (j := 1) o dL_law_1367 rfl ?_
  refine z_aload_n (j := 3) o dL_law_1368 rfl ?_
  refine z_iload_n (j := 0) o dL_law_1369 rfl ?_
  refine z_iconst (v := 1) o dL_law_1370 (by decide) ?_
  refine z_iadd o dL_law_1371 ?_
  refine zo_rw (y := nI (i + 1)) (zn_add (rfl) (rfl)) ?_
  refine z_scd (j := i + 1) o hX dL_law_1372 (by omega) hL ?_
  refine z_callVi (As := [.int (xs (i + 1))]) (n := 1) (st := [.int r1]) o dL_law_1373 (c_X8_judge hB M1 N1 (xs (i + 1)) (by rw [hh 83 (by decide)]; exact h.2.1) (fun s9 hs9 => by rw [hh 88 (by decide)]; exact h.2.2.2.1 s9 hs9)) zc_L_157 (by decide) (i := 82) (by rw [hB]; exact zsh_lt rfl (by decide)) (zg_o rfl (by decide)) rfl rfl rfl (Nat.le_of_ble_eq_true rfl) (fun r4 g5 p6 => ?_)
  obtain ⟨rfl, e2⟩ := p6
  refine z_icmpeq (tgt := 1489) o dL_law_1376 (by decide) (fun c7 => ?_) (fun c7 => ?_)
  · exact kk _ _ (tk_judge (xs (i + 1)) h hh hr zQ.rf)
  · exact absurd (e1.trans ((congrArg Prod.fst (ek_judge hh (xs (i + 1)))).symm.trans e2.symm)) c7
set_option maxHeartbeats 1000000 in
set_option maxRecDepth 20000 in
theorem arm_image {X : zX} {B : zB} {b L i : Nat} {xs : Nat → Int32} {M : zM} {N : zN} (o : zOk X B RL cL_law 4 61) (hB : znn B = 95) (hX : zScr X B b L xs) (hL : L ≤ 3072) (hi : i + 6 ≤ L) (h : zS M N) (kk : ∀ (M1 : zM) (N1 : zN), zS M1 N1 → zW X B (zg B M1 N1) 1489 [(3, .int (nI i)), (2, zref B 82), (1, zref B 0), (0, .ref b)] []) : zW X B (zg B M N) 1381 [(3, .int (nI i)), (2, zref B 82), (1, zref B 0), (0, .ref b)] [] := by
  refine z_aload_n (j := 2) o dL_law_1381 rfl ?_
  refine z_callVi (As := []) (n := 0) (st := []) o dL_law_1382 (k_image hB M N M h.1 h.2.1) zc_L_158 (by decide) (i := 0) (by rw [hB]; exact zsh_lt rfl (by decide)) (zg_o rfl (by decide)) rfl rfl rfl (Nat.le_of_ble_eq_true rfl) (fun r1 g2 p3 => ?_)
  obtain ⟨M1, N1, rfl, e1, hr, hh⟩ := p3
  refine z_aload_n (j := 1) o dL_law_1385 rfl ?_
  refine z_callVi (As := []) (n := 0) (st := [.int r1]) o dL_law_1386 (c_X8_image hB M1 N1 ) zc_L_162 (by decide) (i := 82) (by rw [hB]; exact zsh_lt rfl (by decide)) (zg_o rfl (by decide)) rfl rfl rfl (Nat.le_of_ble_eq_true rfl) (fun r4 g5 p6 => ?_)
  obtain ⟨rfl, e2⟩ := p6
  refine z_icmpeq (tgt := 1489) o dL_law_1389 (by decide) (fun c7 => ?_) (fun c7 => ?_)
  · exact kk _ _ (tk_image h hh hr zQ.rf)
  · exact absurd (e1.trans ((congrArg Prod.fst (ek_image hh)).symm.trans e2.symm)) c7
set_option maxHeartbeats 1000000 in
set_option maxRecDepth 20000 in
theorem arm_restore {X : zX} {B : zB} {b L i : Nat} {xs : Nat → Int32} {M : zM} {N : zN} (o : zOk X B RL cL_law 4 61) (hB : znn B = 95) (hX : zScr X B b L xs) (hL : L ≤ 3072) (hi : i + 6 ≤ L) (h : zS M N) (kk : ∀ (M1 : zM) (N1 : zN), zS M1 N1 → zW X B (zg B M1 N1) 1489 [(3, .int (nI i)), (2, zref B 82), (1, zref B 0), (0, .ref b)] []) : zW X B (zg B M N) 1394 [(3, .int (nI i)), (2, zref B 82), (1, zref B 0), (0, .ref b)] [] := by
  refine z_aload_n (j := 2) o dL_law_1394 rfl ?_
  refine z_callVi (As := []) (n := 0) (st := []) o dL_law_1395 (k_restore hB M N M h.1 h.2.1 h.2.2.1) zc_L_163 (by decide) (i := 0) (by rw [hB]; exact zsh_lt rfl (by decide)) (zg_o rfl (by decide)) rfl rfl rfl (Nat.le_of_ble_eq_true rfl) (fun r1 g2 p3 => ?_)
  obtain ⟨M1, N1, rfl, e1, hr, hh⟩ := p3
  refine z_aload_n (j := 1) o dL_law_1398 rfl ?_
  refine z_callVi (As := []) (n := 0) (st := [.int r1]) o dL_law_1399 (c_X8_restore hB M1 N1 ) zc_L_166 (by decide) (i := 82) (by rw [hB]; exact zsh_lt rfl (by decide)) (zg_o rfl (by decide)) rfl rfl rfl (Nat.le_of_ble_eq_true rfl) (fun r4 g5 p6 => ?_)
  obtain ⟨rfl, e2⟩ := p6
  refine z_icmpeq (tgt := 1489) o dL_law_1402 (by decide) (fun c7 => ?_) (fun c7 => ?_)
  · exact kk _ _ (tk_restore h hh hr zQ.rf)
  · exact absurd (e1.trans ((congrArg Prod.fst (ek_restore hh)).symm.trans e2.symm)) c7
set_option maxHeartbeats 1000000 in
set_option maxRecDepth 20000 in
theorem arm_tell {X : zX} {B : zB} {b L i : Nat} {xs : Nat → Int32} {M : zM} {N : zN} (o : zOk X B RL cL_law 4 61) (hB : znn B = 95) (hX : zScr X B b L xs) (hL : L ≤ 3072) (hi : i + 6 ≤ L) (h : zS M N) (kk : ∀ (M1 : zM) (N1 : zN), zS M1 N1 → zW X B (zg B M1 N1) 1489 [(3, .int (nI i)), (2, zref B 82), (1, zref B 0), (0, .ref b)] []) : zW X B (zg B M N) 1407 [(3, .int (nI i)), (2, zref B 82), (1, zref B 0), (0, .ref b)] [] := by
  refine z_aload_n (j := 2) o dL_law_1407 rfl ?_
  refine z_aload_n (j := 3) o dL_law_1408 rfl ?_
  refine z_iload_n (j := 0) o dL_law_1409 rfl ?_
  refine z_iconst (v := 1) o dL_law_1410 (by decide) ?_
  refine z_iadd o dL_law_1411 ?_
  refine zo_rw (y := nI (i + 1)) (zn_add (rfl) (rfl)) ?_
  refine z_scd (j := i + 1) o hX dL_law_1412 (by omega) hL ?_
  refine z_callVi (As := [.int (xs (i + 1))]) (n := 1) (st := []) o dL_law_1413 (k_tell hB M N M (xs (i + 1)) h.1 h.2.1) zc_L_167 (by decide) (i := 0) (by rw [hB]; exact zsh_lt rfl (by decide)) (zg_o rfl (by decide)) rfl rfl rfl (Nat.le_of_ble_eq_true rfl) (fun r1 g2 p3 => ?_)
  obtain ⟨M1, N1, rfl, e1, hr, hh⟩ := p3
  refine z_aload_n (j := 1) o dL_law_1416 rfl ?_
  refine z_aload_n (j := 3) o dL_law_1417 rfl ?_
  refine z_iload_n (j := 0) o dL_law_1418 rfl ?_
  refine z_iconst (v := 1) o dL_law_1419 (by decide) ?_
  refine z_iadd o dL_law_1420 ?_
  refine zo_rw (y := nI (i + 1)) (zn_add (rfl) (rfl)) ?_
  refine z_scd (j := i + 1) o hX dL_law_1421 (by omega) hL ?_
  refine z_callVi (As := [.int (xs (i + 1))]) (n := 1) (st := [.int r1]) o dL_law_1422 (c_X8_tell hB M1 N1 (xs (i + 1)) (by rw [hh 83 (by decide)]; exact h.2.1)) zc_L_170 (by decide) (i := 82) (by rw [hB]; exact zsh_lt rfl (by decide)) (zg_o rfl (by decide)) rfl rfl rfl (Nat.le_of_ble_eq_true rfl) (fun r4 g5 p6 => ?_)
  obtain ⟨rfl, e2⟩ := p6
  refine z_icmpeq (tgt := 1489) o dL_law_1425 (by decide) (fun c7 => ?_) (fun c7 => ?_)
  · exact kk _ _ (tk_tell (xs (i + 1)) h hh hr zQ.rf)
  · exact absurd (e1.trans ((congrArg Prod.fst (ek_tell hh (xs (i + 1)))).symm.trans e2.symm)) c7
set_option maxHeartbeats 1000000 in
set_option maxRecDepth 20000 in
theorem arm_check {X : zX} {B : zB} {b L i : Nat} {xs : Nat → Int32} {M : zM} {N : zN} (o : zOk X B RL cL_law 4 61) (hB : znn B = 95) (hX : zScr X B b L xs) (hL : L ≤ 3072) (hi : i + 6 ≤ L) (h : zS M N) (kk : ∀ (M1 : zM) (N1 : zN), zS M1 N1 → zW X B (zg B M1 N1) 1489 [(3, .int (nI i)), (2, zref B 82), (1, zref B 0), (0, .ref b)] []) : zW X B (zg B M N) 1430 [(3, .int (nI i)), (2, zref B 82), (1, zref B 0), (0, .ref b)] [] := by
  refine z_aload_n (j := 2) o dL_law_1430 rfl ?_
  refine z_callVi (As := []) (n := 0) (st := []) o dL_law_1431 (k_check hB M N M h.1 h.2.1) zc_L_171 (by decide) (i := 0) (by rw [hB]; exact zsh_lt rfl (by decide)) (zg_o rfl (by decide)) rfl rfl rfl (Nat.le_of_ble_eq_true rfl) (fun r1 g2 p3 => ?_)
  obtain ⟨M1, N1, rfl, e1, hr, hh⟩ := p3
  refine z_aload_n (j := 1) o dL_law_1434 rfl ?_
  refine z_callVi (As := []) (n := 0) (st := [.int r1]) o dL_law_1435 (c_X8_check hB M1 N1 (by rw [hh 83 (by decide)]; exact h.2.1)) zc_L_174 (by decide) (i := 82) (by rw [hB]; exact zsh_lt rfl (by decide)) (zg_o rfl (by decide)) rfl rfl rfl (Nat.le_of_ble_eq_true rfl) (fun r4 g5 p6 => ?_)
  obtain ⟨rfl, e2⟩ := p6
  refine z_icmpeq (tgt := 1489) o dL_law_1438 (by decide) (fun c7 => ?_) (fun c7 => ?_)
  · exact kk _ _ (tk_check h hh hr zQ.rf)
  · exact absurd (e1.trans ((congrArg Prod.fst (ek_check hh)).symm.trans e2.symm)) c7
set_option maxHeartbeats 1000000 in
set_option maxRecDepth 20000 in
theorem arm_count {X : zX} {B : zB} {b L i : Nat} {xs : Nat → Int32} {M : zM} {N : zN} (o : zOk X B RL cL_law 4 61) (hB : znn B = 95) (hX : zScr X B b L xs) (hL : L ≤ 3072) (hi : i + 6 ≤ L) (h : zS M N) (kk : ∀ (M1 : zM) (N1 : zN), zS M1 N1 → zW X B (zg B M1 N1) 1489 [(3, .int (nI i)), (2, zref B 82), (1, zref B 0), (0, .ref b)] []) : zW X B (zg B M N) 1443 [(3, .int (nI i)), (2, zref B 82), (1, zref B 0), (0, .ref b)] [] := by
  refine z_aload_n (j := 2) o dL_law_1443 rfl ?_
  refine z_aload_n (j := 3) o dL_law_1444 rfl ?_
  refine z_iload_n (j := 0) o dL_law_1445 rfl ?_
  refine z_iconst (v := 1) o dL_law_1446 (by decide) ?_
  refine z_iadd o dL_law_1447 ?_
  refine zo_rw (y := nI (i + 1)) (zn_add (rfl) (rfl)) ?_
  refine z_scd (j := i + 1) o hX dL_law_1448 (by omega) hL ?_
  refine z_callVi (As := [.int (xs (i + 1))]) (n := 1) (st := []) o dL_law_1449 (k_count hB M N M (xs (i + 1)) h.1 h.2.1) zc_L_175 (by decide) (i := 0) (by rw [hB]; exact zsh_lt rfl (by decide)) (zg_o rfl (by decide)) rfl rfl rfl (Nat.le_of_ble_eq_true rfl) (fun r1 g2 p3 => ?_)
  obtain ⟨M1, N1, rfl, e1, hr, hh⟩ := p3
  refine z_aload_n (j := 1) o dL_law_1452 rfl ?_
  refine z_aload_n (j := 3) o dL_law_1453 rfl ?_
  refine z_iload_n (j := 0) o dL_law_1454 rfl ?_
  refine z_iconst (v := 1) o dL_law_1455 (by decide) ?_
  refine z_iadd o dL_law_1456 ?_
  refine zo_rw (y := nI (i + 1)) (zn_add (rfl) (rfl)) ?_
  refine z_scd (j := i + 1) o hX dL_law_1457 (by omega) hL ?_
  refine z_callVi (As := [.int (xs (i + 1))]) (n := 1) (st := [.int r1]) o dL_law_1458 (c_X8_count hB M1 N1 (xs (i + 1)) ) zc_L_178 (by decide) (i := 82) (by rw [hB]; exact zsh_lt rfl (by decide)) (zg_o rfl (by decide)) rfl rfl rfl (Nat.le_of_ble_eq_true rfl) (fun r4 g5 p6 => ?_)
  obtain ⟨rfl, e2⟩ := p6
  refine z_icmpeq (tgt := 1489) o dL_law_1461 (by decide) (fun c7 => ?_) (fun c7 => ?_)
  · exact kk _ _ (tk_count (xs (i + 1)) h hh hr zQ.rf)
  · exact absurd (e1.trans ((congrArg Prod.fst (ek_count hh (xs (i + 1)))).symm.trans e2.symm)) c7
set_option maxHeartbeats 1000000 in
set_option maxRecDepth 20000 in
theorem arm_told {X : zX} {B : zB} {b L i : Nat} {xs : Nat → Int32} {M : zM} {N : zN} (o : zOk X B RL cL_law 4 61) (hB : znn B = 95) (hX : zScr X B b L xs) (hL : L ≤ 3072) (hi : i + 6 ≤ L) (h : zS M N) (kk : ∀ (M1 : zM) (N1 : zN), zS M1 N1 → zW X B (zg B M1 N1) 1489 [(3, .int (nI i)), (2, zref B 82), (1, zref B 0), (0, .ref b)] []) : zW X B (zg B M N) 1466 [(3, .int (nI i)), (2, zref B 82), (1, zref B 0), (0, .ref b)] [] := by
  refine z_aload_n (j := 2) o dL_law_1466 rfl ?_
  refine z_aload_n (j := 3) o dL_law_1467 rfl ?_
  refine z_iload_n (j := 0) o dL_law_1468 rfl ?_
  refine z_iconst (v := 1) o dL_law_1469 (by decide) ?_
  refine z_iadd o dL_law_1470 ?_
  refine zo_rw (y := nI (i + 1)) (zn_add (rfl) (rfl)) ?_
  refine z_scd (j := i + 1) o hX dL_law_1471 (by omega) hL ?_
  refine z_callVi (As := [.int (xs (i + 1))]) (n := 1) (st := []) o dL_law_1472 (k_told hB M N M (xs (i + 1)) h.1 h.2.1) zc_L_179 (by decide) (i := 0) (by rw [hB]; exact zsh_lt rfl (by decide)) (zg_o rfl (by decide)) rfl rfl rfl (Nat.le_of_ble_eq_true rfl) (fun r1 g2 p3 => ?_)
  obtain ⟨M1, N1, rfl, e1, hr, hh⟩ := p3
  refine z_aload_n (j := 1) o dL_law_1475 rfl ?_
  refine z_aload_n (j := 3) o dL_law_1476 rfl ?_
  refine z_iload_n (j := 0) o dL_law_1477 rfl ?_
  refine z_iconst (v := 1) o dL_law_1478 (by decide) ?_
  refine z_iadd o dL_law_1479 ?_
  refine zo_rw (y := nI (i + 1)) (zn_add (rfl) (rfl)) ?_
  refine z_scd (j := i + 1) o hX dL_law_1480 (by omega) hL ?_
  refine z_callVi (As := [.int (xs (i + 1))]) (n := 1) (st := [.int r1]) o dL_law_1481 (c_X8_told hB M1 N1 (xs (i + 1)) ) zc_L_182 (by decide) (i := 82) (by rw [hB]; exact zsh_lt rfl (by decide)) (zg_o rfl (by decide)) rfl rfl rfl (Nat.le_of_ble_eq_true rfl) (fun r4 g5 p6 => ?_)
  obtain ⟨rfl, e2⟩ := p6
  refine z_icmpeq (tgt := 1489) o dL_law_1484 (by decide) (fun c7 => ?_) (fun c7 => ?_)
  · exact kk _ _ (tk_told (xs (i + 1)) h hh hr zQ.rf)
  · exact absurd (e1.trans ((congrArg Prod.fst (ek_told hh (xs (i + 1)))).symm.trans e2.symm)) c7
